import java.lang.reflect.Constructor;
import java.lang.reflect.Method;
import java.lang.reflect.Modifier;
import java.nio.file.Files;
import java.nio.file.Path;
import java.util.Set;
import java.util.TreeSet;
import java.util.regex.Matcher;
import java.util.regex.Pattern;

/** The class shows just the face that stands in ../shared/DOC.md: results, parameters and exceptions. */
public final class FaceTest {
  public static void main(String[] args) throws Exception {
    String document = Files.readString(Path.of("../shared/DOC.md"));
    Set<String> due = faceOfDocument(document);
    Set<String> found = faceOfClass();
    int wrong = compareHeadings(document, Files.readString(Path.of("src/main/java/Probatehall.java")));
    for (String method : due) {
      wrong += report(found.contains(method), "missing: " + method);
    }
    for (String method : found) {
      wrong += report(due.contains(method), "not in the document: " + method);
    }
    int modifiers = Probatehall.class.getModifiers();
    wrong += report(Modifier.isPublic(modifiers) && Modifier.isFinal(modifiers), "the class is not public and final");
    wrong += report(due.size() == 32, "the document's face has so many members: " + due.size());
    System.out.println(due.size() + " members of the face, " + wrong + " wrong");
    if (wrong > 0) {
      System.exit(1);
    }
  }

  private static int report(boolean holds, String what) {
    if (!holds) {
      System.out.println(what);
    }
    return holds ? 0 : 1;
  }

  /** "Ahead of the calls .. the interface says": each heading stands ahead of just these calls, in this order. */
  private static int compareHeadings(String document, String source) {
    int wrong = 0;
    int headings = 0;
    Matcher told = Pattern.compile("(?m)^Ahead of the calls (.*) the interface says: (---- .*)\\.$").matcher(document);
    while (told.find()) {
      headings++;
      int start = source.indexOf("// " + told.group(2) + "\n");
      int end = source.indexOf("// ----", start + 1);
      StringBuilder calls = new StringBuilder();
      String below = start < 0 ? "" : source.substring(start, end < 0 ? source.length() : end);
      for (Matcher head = Pattern.compile("(?m)^  public \\w+ (\\w+)\\(").matcher(below); head.find();) {
        calls.append(calls.length() == 0 ? "" : ", ").append('`').append(head.group(1)).append('`');
      }
      wrong += report(told.group(1).contentEquals(calls), "below " + told.group(2) + " stand " + calls);
    }
    return wrong + report(headings == 4, "the document's face has so many headings: " + headings);
  }

  /** Each member as the document writes it, without the names of parameters. */
  private static Set<String> faceOfDocument(String document) {
    Set<String> face = new TreeSet<>();
    Matcher line = Pattern.compile("(?m)^    public (.*)\\((.*)\\)(?: throws (.*))?;$").matcher(document);
    while (line.find()) {
      String types = line.group(2).replaceAll(" \\w+(?=,|$)", "");
      face.add(member(line.group(1), types, line.group(3) == null ? "" : line.group(3)));
    }
    return face;
  }

  private static Set<String> faceOfClass() {
    Set<String> face = new TreeSet<>();
    for (Method method : Probatehall.class.getDeclaredMethods()) {
      if (!Modifier.isPrivate(method.getModifiers())) {
        String head = method.getReturnType().getSimpleName() + " " + method.getName();
        face.add(member(head, names(method.getParameterTypes()), names(method.getExceptionTypes())));
      }
    }
    for (Constructor<?> made : Probatehall.class.getDeclaredConstructors()) {
      face.add(member("Probatehall", names(made.getParameterTypes()), names(made.getExceptionTypes())));
    }
    return face;
  }

  private static String member(String head, String types, String exceptions) {
    return head + "(" + types + ") throws [" + exceptions + "]";
  }

  private static String names(Class<?>[] types) {
    StringBuilder names = new StringBuilder();
    for (Class<?> type : types) {
      names.append(names.length() == 0 ? "" : ", ").append(type.getSimpleName());
    }
    return names.toString();
  }
}
