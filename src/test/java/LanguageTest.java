import java.nio.file.Files;
import java.nio.file.Path;
import java.util.regex.Matcher;
import java.util.regex.Pattern;

/** The rules of ../shared/LANGUAGE.md that can be seen from the text of the class alone. */
public final class LanguageTest {
  private static final int LONGEST_METHOD = 60;
  private static final int MOST_CLASSES = 12;
  private static final int MOST_FIELDS = 20;
  private static final String[] FORBIDDEN = {
    "->", "::", "\\btry\\b", "\\bcatch\\b", "\\bfinally\\b", "\\bsynchronized\\b", "\\bassert\\b", "\\bnull\\b",
    "\\bprotected\\b", "\\bpackage\\b", "\"\\s*\\+", "\\+\\s*\"", "\\bequals\\b", "\\bhashCode\\b", "\\btoString\\b",
    "Exact\\b", "\\bSystem\\.(?!arraycopy)", "\\bstatic\\s*\\{", "\\bint\\[\\]\\[\\]", "\\bwhile\\s*\\(true"};

  private static int wrong;

  private static void need(boolean holds, String what) {
    if (!holds) {
      wrong++;
      System.out.println(what);
    }
  }

  public static void main(String[] args) throws Exception {
    String source = Files.readString(Path.of("src/main/java/Probatehall.java"));
    String code = source.replaceAll("(?s)/\\*.*?\\*/", "").replaceAll("//[^\n]*", "");
    for (String rule : FORBIDDEN) {
      Matcher found = Pattern.compile(rule).matcher(code);
      need(!found.find(), "forbidden: " + rule);
    }
    need(source.chars().allMatch(sign -> sign == '\n' || sign >= 32 && sign < 127), "signs beyond ASCII");
    Matcher imports = Pattern.compile("(?m)^import (.*);").matcher(code);
    while (imports.find()) {
      need(imports.group(1).equals("java.util.NoSuchElementException"), "import " + imports.group(1));
    }
    Matcher statics = Pattern.compile("(?m)^\\s+private static (?!final )[^(]*[;=]").matcher(code);
    need(!statics.find(), "static state that is not final");
    need(code.split("\\bclass ").length - 1 <= MOST_CLASSES, "too many classes");
    compareNames(code);
    measureMethods(code.split("\n"));
    measureFields(code);
    System.out.println("rules of the language: " + wrong + " wrong");
    if (wrong > 0) {
      System.exit(1);
    }
  }

  /** Only the face bears the names of the face. */
  private static void compareNames(String code) {
    Matcher face = Pattern.compile("(?m)^  public [\\w]+ (\\w+)\\(").matcher(code);
    int names = 0;
    while (face.find()) {
      names++;
      Pattern head = Pattern.compile("(?m)^ +(?!return|new|else)[\\w\\[\\] ]*[\\w\\]] " + face.group(1) + "\\([^;]*\\{$");
      int bearers = 0;
      for (Matcher found = head.matcher(code); found.find();) {
        bearers++;
      }
      need(bearers == 1, "so many methods of the name " + face.group(1) + ": " + bearers);
    }
    need(names == 31, "so many public methods: " + names);
  }

  private static void measureMethods(String[] lines) {
    for (int line = 0; line < lines.length; line++) {
      Matcher head = Pattern.compile("^( +)[\\w\\[\\] ]+ (\\w+)\\(.*").matcher(lines[line]);
      if (head.matches() && head.group(1).length() <= 4 && !lines[line].contains(";")) {
        int end = line;
        while (!lines[end].equals(head.group(1) + "}")) {
          end++;
        }
        need(end - line < LONGEST_METHOD, head.group(2) + " is too long: " + (end - line + 1));
      }
    }
  }

  private static void measureFields(String code) {
    for (String body : code.split("\\bclass ")) {
      String indent = body.startsWith("Probatehall ") ? "  " : "    ";
      Pattern form = Pattern.compile("(?m)^" + indent + "(private )?(final )?[\\w\\[\\]]+ \\w+( =[^;]*)?;");
      Matcher field = form.matcher(body);
      int fields = 0;
      while (field.find()) {
        fields++;
      }
      need(fields <= MOST_FIELDS, body.substring(0, body.indexOf(' ')) + " has too many fields: " + fields);
    }
  }
}
