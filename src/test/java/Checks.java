import java.lang.reflect.Method;
import java.lang.reflect.Modifier;
import java.util.NoSuchElementException;

/** What the tests of the class share: answers that are due, small halls, and the running of all tests of a class. */
abstract class Checks {
  static final Class<?> INDEX = IndexOutOfBoundsException.class;
  static final Class<?> ARGUMENT = IllegalArgumentException.class;
  static final Class<?> STATE = IllegalStateException.class;
  static final Class<?> NO_ELEMENT = NoSuchElementException.class;
  static final Class<?> ARITHMETIC = ArithmeticException.class;
  static final int MIN = Integer.MIN_VALUE;
  static final int MAX = Integer.MAX_VALUE;

  private static int wrong;
  private static String test = "";

  interface Call {
    Object on();
  }

  /** An answer is what the call returns, or the class of what it throws: the machine's own exceptions are no answer. */
  static Object answer(Call call) {
    try {
      return call.on();
    } catch (RuntimeException e) {
      return e.getClass();
    }
  }

  static void due(Object due, Call call) {
    Object found = answer(call);
    if (!due.equals(found)) {
      wrong++;
      System.out.println(test + ", line " + lineOfTest() + ": " + found + ", due is " + due);
    }
  }

  private static int lineOfTest() {
    int line = 0;
    for (StackTraceElement frame : new Throwable().getStackTrace()) {
      line = frame.getMethodName().equals(test) ? frame.getLineNumber() : line;
    }
    return line;
  }

  /** Runs each test of a class, which are its methods that take nothing and whose names begin so. */
  static void runTests(Class<?> tests, int least, String... beginnings) throws Exception {
    int count = 0;
    for (Method method : tests.getDeclaredMethods()) {
      boolean named = false;
      for (String beginning : beginnings) {
        named |= method.getName().startsWith(beginning);
      }
      if (named && method.getParameterCount() == 0 && Modifier.isStatic(method.getModifiers())) {
        test = method.getName();
        method.invoke(null);
        count++;
      }
    }
    System.out.println(count + " tests, " + wrong + " wrong");
    if (wrong > 0 || count < least) {
      System.exit(1);
    }
  }

  /** A hall with one land of a system and some people born on the day 0 without parents. */
  static Probatehall hall(char system, int people) {
    return hall(system, 0, people);
  }

  static Probatehall hall(char system, int forced, int people) {
    Probatehall hall = new Probatehall();
    hall.land(system, forced, 0, false, false, false);
    for (int count = 0; count < people; count++) {
      hall.person(0, -1, -1);
    }
    return hall;
  }

  static void dueShare(Probatehall hall, int dead, int land, int person, long top, long bottom) {
    due(top, () -> hall.shareTop(dead, land, person));
    due(bottom, () -> hall.shareBottom(dead, land, person));
  }

  /** What each person gets, by numbers, and the land last. */
  static void dueGets(Probatehall hall, int dead, int land, int... amounts) {
    for (int person = 0; person < amounts.length - 1; person++) {
      int who = person;
      due(amounts[who], () -> hall.gets(dead, land, who));
    }
    due(amounts[amounts.length - 1], () -> hall.gets(dead, land, -1));
    due(true, hall::isConsistent);
  }

  /** All wills in force, and that there are no more. */
  static void dueWills(Probatehall hall, int dead, int... wills) {
    for (int index = 0; index < wills.length; index++) {
      int at = index;
      due(wills[at], () -> hall.inForce(dead, at));
    }
    due(-1, () -> hall.inForce(dead, wills.length));
  }
}
