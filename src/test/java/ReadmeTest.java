import java.nio.file.Files;
import java.nio.file.Path;
import java.util.ArrayList;
import java.util.List;
import java.util.regex.Matcher;
import java.util.regex.Pattern;
import javax.tools.ToolProvider;

/** What README.md says is so: its example is compiled and run, and each answer in it is compared. */
public final class ReadmeTest {
  private static final Pattern BLOCK = Pattern.compile("(?s)```java\n(.*?)```");
  private static final Pattern ANSWER = Pattern.compile("(hall\\..*); *// *(-?[\\d.]+|true|false)\\b.*");
  private static final Pattern REFUSAL = Pattern.compile("(hall\\..*); *// *throws (\\w+)");

  public static void main(String[] args) throws Exception {
    String text = Files.readString(Path.of("README.md"));
    int wrong = runExample(text) + compareNames(text);
    if (wrong > 0) {
      System.exit(1);
    }
  }

  private static int runExample(String text) throws Exception {
    Matcher block = BLOCK.matcher(text);
    StringBuilder body = new StringBuilder();
    int answers = 0;
    while (block.find()) {
      for (String line : block.group(1).split("\n")) {
        Matcher answer = ANSWER.matcher(line.strip());
        Matcher refusal = REFUSAL.matcher(line.strip());
        boolean answered = answer.matches();
        boolean refused = refusal.matches();
        answers += answered || refused ? 1 : 0;
        body.append(answered ? "due(\"" + answer.group(2) + "\", String.valueOf(" + answer.group(1) + "));"
            : refused ? "try { " + refusal.group(1) + "; due(\"" + refusal.group(2)
                + "\", \"nothing\"); } catch (" + refusal.group(2) + " e) { due(e, e); }" : line).append('\n');
      }
    }
    int wrong = run(body.toString());
    System.out.println(answers + " answers of the example, " + wrong + " wrong");
    return answers < 20 ? 1 : wrong;
  }

  private static int run(String body) throws Exception {
    Path folder = Files.createTempDirectory("readme");
    Path source = folder.resolve("Example.java");
    Files.writeString(source, "import java.util.*;\npublic final class Example {\n"
        + "static int wrong;\nstatic void due(Object due, Object found) { if (!due.equals(found)) { wrong++;"
        + " System.out.println(found + \", due is \" + due); } }\n"
        + "public static void main(String[] args) {\n" + body + "System.exit(wrong);\n}\n}\n");
    String classes = System.getProperty("java.class.path");
    int failed = ToolProvider.getSystemJavaCompiler().run(null, null, null, "-cp", classes, "-d", folder.toString(),
        source.toString());
    String java = Path.of(System.getProperty("java.home"), "bin", "java").toString();
    String both = classes + System.getProperty("path.separator") + folder;
    int wrong = failed != 0 ? 1 : new ProcessBuilder(java, "-cp", both, "Example").inheritIO().start().waitFor();
    for (Path file : List.of(source, folder.resolve("Example.class"), folder)) {
      Files.deleteIfExists(file);
    }
    return wrong;
  }

  /** Each test of the project, and each class inside the class, has a word in README.md, and no other. */
  private static int compareNames(String text) throws Exception {
    List<String> due = new ArrayList<>();
    try (var files = Files.list(Path.of("src/test/java"))) {
      files.map(file -> file.getFileName().toString().replace(".java", "")).forEach(due::add);
    }
    Matcher inside = Pattern.compile("(?m)^  private static final class (\\w+)")
        .matcher(Files.readString(Path.of("src/main/java/Probatehall.java")));
    while (inside.find()) {
      due.add(inside.group(1));
    }
    int wrong = 0;
    for (String name : due) {
      if (!Pattern.compile("`" + name + "\\b[^`]*`").matcher(text).find()) {
        wrong++;
        System.out.println("not in README.md: " + name);
      }
    }
    Matcher named = Pattern.compile("`(\\w+Test)\\b[^`]*`").matcher(text);
    while (named.find()) {
      if (!due.contains(named.group(1))) {
        wrong++;
        System.out.println("in README.md, but there is none: " + named.group(1));
      }
    }
    return wrong;
  }
}
