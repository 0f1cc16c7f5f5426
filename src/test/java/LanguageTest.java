import java.nio.file.Files;
import java.nio.file.Path;
import java.util.HashSet;
import java.util.Set;
import java.util.regex.Matcher;
import java.util.regex.Pattern;

/** The rules of ../shared/LANGUAGE.md that can be seen from the text of the class alone. */
public final class LanguageTest {
  private static final int LONGEST_METHOD = 60;
  private static final int MOST_CLASSES = 12;
  private static final int MOST_FIELDS = 20;
  private static final String[] FORBIDDEN = {
    "->", "::", "\\btry\\b", "\\bcatch\\b", "\\bfinally\\b", "\\bsynchronized\\b", "\\bassert\\b", "\\bnull\\b",
    "\\bprotected\\b", "\\bpackage\\b", "\"\\s*\\+", "\\+\\s*\"", "\\bequals\\b", "\\bhashCode\\b", "\\btoString\\b",
    "Exact\\b", "\\bSystem\\.(?!arraycopy)", "\\bstatic\\s*\\{", "\\bint\\[\\]\\[\\]", "\\bwhile\\s*\\(true"};

  /** What the library gives, beside the classes inside the class. */
  private static final Set<String> LIBRARY = Set.of("Integer.bitCount", "Math.max", "Math.min", "System.arraycopy");
  private static final Set<String> EXCEPTIONS = Set.of("IllegalStateException", "IllegalArgumentException",
      "IndexOutOfBoundsException", "ArithmeticException", "UnsupportedOperationException", "NoSuchElementException",
      "RuntimeException");

  private static int wrong;

  private static void need(boolean holds, String what) {
    if (!holds) {
      wrong++;
      System.out.println(what);
    }
  }

  public static void main(String[] args) throws Exception {
    String source = Files.readString(Path.of("src/main/java/Probatehall.java"));
    String code = source.replaceAll("(?s)/\\*.*?\\*/", "").replaceAll("//[^\n]*", "");
    for (String rule : FORBIDDEN) {
      Matcher found = Pattern.compile(rule).matcher(code);
      need(!found.find(), "forbidden: " + rule);
    }
    need(source.chars().allMatch(sign -> sign == '\n' || sign >= 32 && sign < 127), "signs beyond ASCII");
    Matcher imports = Pattern.compile("(?m)^import (.*);").matcher(code);
    while (imports.find()) {
      need(imports.group(1).equals("java.util.NoSuchElementException"), "import " + imports.group(1));
    }
    Matcher statics = Pattern.compile("(?m)^\\s+private static (?!final )[^(]*[;=]").matcher(code);
    need(!statics.find(), "static state that is not final");
    need(code.split("\\bclass ").length - 1 <= MOST_CLASSES, "too many classes");
    compareNames(code);
    compareLibrary(code);
    measureParameters(code);
    findObjectsMade(code);
    measureMethods(code.split("\n"));
    measureFields(code);
    System.out.println("rules of the language: " + wrong + " wrong");
    if (wrong > 0) {
      System.exit(1);
    }
  }

  /** Only the face bears the names of the face. */
  private static void compareNames(String code) {
    Matcher face = Pattern.compile("(?m)^  public [\\w]+ (\\w+)\\(").matcher(code);
    int names = 0;
    while (face.find()) {
      names++;
      Pattern head = Pattern.compile("(?m)^ +(?!return|new|else)[\\w\\[\\] ]*[\\w\\]] " + face.group(1) + "\\([^;]*\\{$");
      int bearers = 0;
      for (Matcher found = head.matcher(code); found.find();) {
        bearers++;
      }
      need(bearers == 1, "so many methods of the name " + face.group(1) + ": " + bearers);
    }
    need(names == 31, "so many public methods: " + names);
  }

  /** Each name with a small letter behind a capital one is a class of our own, an exception or of the library. */
  private static void compareLibrary(String code) {
    Set<String> own = new HashSet<>();
    for (Matcher head = Pattern.compile("\\bclass (\\w+)").matcher(code); head.find();) {
      own.add(head.group(1));
    }
    String texts = code.replaceAll("\"[^\"\n]*\"", "\"\"").replaceAll("(?m)^import .*", "");
    for (Matcher name = Pattern.compile("\\b[A-Z]\\w*[a-z]\\w*\\b(\\.\\w+)?").matcher(texts); name.find();) {
      String found = name.group();
      boolean known = own.contains(found) || EXCEPTIONS.contains(found) || LIBRARY.contains(found);
      need(known, "not of the library that may be used: " + found);
    }
    need(Pattern.compile("\\bthrow\\b(?! new \\w+\\(\"[^\"]*\"\\);)").matcher(code).results().count() == 0,
        "thrown otherwise than as a new exception with a written text");
  }

  private static void measureParameters(String code) {
    Pattern form = Pattern.compile("(?m)^ {2,4}[\\w\\[\\] ]+\\(([^()]*)\\)[^;{]*\\{$");
    for (Matcher head = form.matcher(code); head.find();) {
      need(head.group(1).split(",").length <= 7, "too many parameters: " + head.group(1));
    }
  }

  /** All rows are made with the object: no call makes more than the exception that it throws. */
  private static void findObjectsMade(String code) {
    String field = "    (private )?final [\\w\\[\\]]+ \\w+ = new \\w+[\\[(].*";
    String made = "    (book|shares|estate) = new \\w+\\(\\);";
    for (String line : code.split("\n")) {
      boolean makes = line.contains("new ") && !line.contains("throw new ");
      need(!makes || line.matches(field) || line.matches(made), "an object made by a call: " + line.strip());
    }
  }

  private static void measureMethods(String[] lines) {
    for (int line = 0; line < lines.length; line++) {
      Matcher head = Pattern.compile("^( +)[\\w\\[\\] ]+ (\\w+)\\(.*").matcher(lines[line]);
      if (head.matches() && head.group(1).length() <= 4 && !lines[line].contains(";")) {
        int end = line;
        while (!lines[end].equals(head.group(1) + "}")) {
          end++;
        }
        need(end - line < LONGEST_METHOD, head.group(2) + " is too long: " + (end - line + 1));
      }
    }
  }

  private static void measureFields(String code) {
    for (String body : code.split("\\bclass ")) {
      String indent = body.startsWith("Probatehall ") ? "  " : "    ";
      Pattern form = Pattern.compile("(?m)^" + indent + "(private )?(final )?[\\w\\[\\]]+ \\w+( =[^;]*)?;");
      Matcher field = form.matcher(body);
      int fields = 0;
      while (field.find()) {
        fields++;
      }
      need(fields <= MOST_FIELDS, body.substring(0, body.indexOf(' ')) + " has too many fields: " + fields);
    }
  }
}
