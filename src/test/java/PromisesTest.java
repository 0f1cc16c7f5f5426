import java.lang.reflect.Constructor;
import java.lang.reflect.Method;
import java.lang.reflect.Modifier;

/** Each promise by itself: ordinary inputs, the edges that the document names, and wrong inputs. */
public final class PromisesTest extends Checks {
  public static void main(String[] args) throws Exception {
    runTests(PromisesTest.class, 51, "promise");
  }

  static void promise01NewObject() {
    Probatehall hall = new Probatehall();
    due(INDEX, () -> hall.taxes(0, 0, 0));
    due(INDEX, () -> hall.die(0, 0));
    due(INDEX, () -> hall.livedIn(0, 0));
    due(true, hall::isConsistent);
    due(ARITHMETIC, hall::meanValue);
    due(ARITHMETIC, hall::paidShare);
    due(0, () -> hall.person(5, -1, -1));
    due(0, () -> hall.livedIn(0, 0));
    due(INDEX, () -> hall.thing(0, 1, true, 0));
    due(-1, () -> hall.die(0, 5));
    due(0, () -> hall.will(0, 5, true));
    due(0, () -> hall.inForce(0, 0));
    due(0, () -> hall.debt(0, 0, 3));
    due(0, () -> hall.paidOf(0));
    due(0.0f, hall::paidShare);
    due(INDEX, () -> hall.pool(0, 0));
    due(true, hall::isConsistent);
    due(0, () -> new Probatehall().person(5, -1, -1));
  }

  static void promise01Face() throws Exception {
    Class<?> face = Probatehall.class;
    due(true, () -> Modifier.isPublic(face.getModifiers()) && Modifier.isFinal(face.getModifiers()));
    int shown = 0;
    for (Method method : face.getDeclaredMethods()) {
      shown += Modifier.isPrivate(method.getModifiers()) ? 0 : 1;
    }
    int all = shown;
    due(31, () -> all);
    Constructor<?>[] made = face.getDeclaredConstructors();
    due(1, () -> made.length);
    due(0, () -> face.getFields().length);
    Method clause = face.getMethod("clause", int.class, char.class, int.class, int.class, int.class);
    due(3, () -> clause.getExceptionTypes().length);
  }

  static void promise02Land() {
    Probatehall hall = new Probatehall();
    due(ARGUMENT, () -> hall.land('x', 0, 0, false, false, false));
    due(ARGUMENT, () -> hall.land('S', 0, 0, false, false, false));
    due(ARGUMENT, () -> hall.land((char) 0, 0, 0, false, false, false));
    due(ARGUMENT, () -> hall.land('s', -1, 0, false, false, false));
    due(ARGUMENT, () -> hall.land('s', 13, 0, false, false, false));
    due(ARGUMENT, () -> hall.land('s', 0, -1, false, false, false));
    due(ARGUMENT, () -> hall.land('s', 0, 1000, false, false, false));
    due(ARGUMENT, () -> hall.land('s', MIN, MAX, false, false, false));
    due(0, () -> hall.land('s', 0, 0, false, false, false));
    due(1, () -> hall.land('h', 12, 999, true, true, true));
    due(2, () -> hall.land('f', 6, 10, true, false, true));
    due(3, () -> hall.land('e', 1, 1, false, true, false));
    due(STATE, () -> hall.land('e', 1, 1, false, true, false));
    due(ARGUMENT, () -> hall.land('q', 1, 1, false, true, false));
    due(ARGUMENT, () -> hall.land('s', 13, 1, false, true, false));
    due(0, () -> hall.taxes(3, 1, 2));
    due(INDEX, () -> hall.taxes(4, 1, 2));
  }

  static void promise03Taxes() {
    Probatehall hall = hall('s', 0);
    due(0, () -> hall.taxes(0, 99, 7));
    due(9907, () -> hall.taxes(0, 0, 99));
    due(ARGUMENT, () -> hall.taxes(0, 100, 0));
    due(ARGUMENT, () -> hall.taxes(0, 0, 100));
    due(ARGUMENT, () -> hall.taxes(0, -1, 0));
    due(ARGUMENT, () -> hall.taxes(0, 0, -1));
    due(INDEX, () -> hall.taxes(1, 100, 0));
    due(INDEX, () -> hall.taxes(-1, 0, 0));
    due(99, () -> hall.taxes(0, 0, 0));
  }

  static void promise04Person() {
    Probatehall hall = new Probatehall();
    due(ARGUMENT, () -> hall.person(-1, -1, -1));
    due(ARGUMENT, () -> hall.person(100000, -1, -1));
    due(INDEX, () -> hall.person(0, 0, -1));
    due(INDEX, () -> hall.person(0, -1, 0));
    due(INDEX, () -> hall.person(0, -2, -1));
    due(INDEX, () -> hall.person(0, -1, -2));
    due(0, () -> hall.person(0, -1, -1));
    due(1, () -> hall.person(99999, -1, 0));
    due(ARGUMENT, () -> hall.person(0, 0, 0));
    due(ARGUMENT, () -> hall.person(0, 9, 9));
    due(ARGUMENT, () -> hall.person(-1, 9, -1));
    due(INDEX, () -> hall.person(0, 0, 2));
    due(2, () -> hall.person(5, 1, 0));
    for (int count = 3; count < 16; count++) {
      int number = count;
      due(number, () -> hall.person(7, number - 1, -1));
    }
    due(STATE, () -> hall.person(7, -1, -1));
    due(STATE, () -> hall.person(7, 15, 14));
    due(INDEX, () -> hall.person(7, 16, 14));
    due(ARGUMENT, () -> hall.person(7, 14, 14));
    due(-1, () -> hall.die(15, 7));
  }

  static void promise05Die() {
    Probatehall hall = hall('s', 0);
    hall.person(50, -1, -1);
    due(ARGUMENT, () -> hall.die(0, 49));
    due(ARGUMENT, () -> hall.die(0, 100000));
    due(ARGUMENT, () -> hall.die(0, -1));
    due(INDEX, () -> hall.die(1, 60));
    due(INDEX, () -> hall.die(-1, -1));
    due(NO_ELEMENT, () -> hall.pool(0, 0));
    due(-1, () -> hall.die(0, 50));
    due(50, () -> hall.die(0, 99999));
    due(99999, () -> hall.die(0, 70));
    due(0, () -> hall.pool(0, 0));
  }

  static void promise06Marry() {
    Probatehall hall = hall('s', 3);
    due(INDEX, () -> hall.marry(3, 0, 5));
    due(INDEX, () -> hall.marry(0, 3, 5));
    due(INDEX, () -> hall.marry(-1, -1, 5));
    due(ARGUMENT, () -> hall.marry(0, 0, 5));
    due(ARGUMENT, () -> hall.marry(0, 1, -1));
    due(ARGUMENT, () -> hall.marry(0, 1, 100000));
    for (int count = 0; count < 20; count++) {
      int number = count;
      due(number, () -> hall.marry(0, 1 + number % 2, number % 2 == 0 ? 0 : 99999));
    }
    due(STATE, () -> hall.marry(0, 1, 5));
    due(ARGUMENT, () -> hall.marry(1, 1, 5));
    due(INDEX, () -> hall.marry(1, 3, 5));
  }

  static void promise07Part() {
    Probatehall hall = hall('s', 2);
    due(INDEX, () -> hall.part(0, 5));
    hall.marry(1, 0, 10);
    hall.die(0, 30);
    due(1, () -> hall.spouse(0, 0));
    due(ARGUMENT, () -> hall.part(0, 9));
    due(ARGUMENT, () -> hall.part(0, 100000));
    due(INDEX, () -> hall.part(-1, 5));
    due(INDEX, () -> hall.part(1, 5));
    due(-1, () -> hall.part(0, 10));
    due(-1, () -> hall.spouse(0, 0));
    due(10, () -> hall.part(0, 30));
    due(-1, () -> hall.spouse(0, 0));
    due(30, () -> hall.part(0, 31));
    due(1, () -> hall.spouse(0, 0));
    due(31, () -> hall.part(0, 99999));
  }

  static void promise08Live() {
    Probatehall hall = hall('s', 2);
    hall.land('h', 0, 0, false, false, false);
    hall.land('f', 0, 0, false, false, false);
    due(INDEX, () -> hall.live(2, 0, 5));
    due(INDEX, () -> hall.live(0, 3, 5));
    due(INDEX, () -> hall.live(0, -1, -1));
    due(ARGUMENT, () -> hall.live(0, 0, -1));
    due(ARGUMENT, () -> hall.live(0, 0, 100000));
    due(0, () -> hall.live(0, 1, 20));
    due(1, () -> hall.live(0, 2, 20));
    due(2, () -> hall.live(0, 1, 99999));
    due(0, () -> hall.live(0, 2, 10));
    due(0, () -> hall.live(1, 1, 15));
    for (int count = 5; count < 60; count++) {
      hall.live(1, 2, count);
    }
    due(STATE, () -> hall.live(0, 0, 10));
    due(STATE, () -> hall.live(0, 0, 11));
    due(ARGUMENT, () -> hall.live(0, 0, 100000));
    due(2, () -> hall.livedIn(0, 11));
  }

  static void promise09SetUnworthy() {
    Probatehall hall = hall('h', 2);
    hall.person(0, 0, -1);
    hall.die(0, 10);
    due(false, () -> hall.setUnworthy(2, 0, false));
    due(false, () -> hall.setUnworthy(2, 0, true));
    due(true, () -> hall.setUnworthy(2, 0, true));
    due(false, () -> hall.takes(2, 0, 0));
    due(false, () -> hall.setUnworthy(2, 1, false));
    due(false, () -> hall.setUnworthy(0, 2, false));
    due(true, () -> hall.takes(1, 0, 0));
    due(true, () -> hall.setUnworthy(2, 0, false));
    due(true, () -> hall.takes(2, 0, 0));
    due(INDEX, () -> hall.setUnworthy(3, 0, true));
    due(INDEX, () -> hall.setUnworthy(0, 3, true));
    due(INDEX, () -> hall.setUnworthy(0, -1, true));
    due(INDEX, () -> hall.setUnworthy(-1, 0, true));
    due(false, () -> hall.setUnworthy(1, 1, true));
  }

  static void promise10Renounce() {
    Probatehall hall = hall('h', 3);
    due(NO_ELEMENT, () -> hall.renounce(1, 0));
    due(INDEX, () -> hall.renounce(3, 0));
    due(INDEX, () -> hall.renounce(0, 3));
    due(INDEX, () -> hall.renounce(-1, 0));
    due(INDEX, () -> hall.renounce(0, -1));
    hall.die(0, 10);
    hall.die(2, 1);
    due(true, () -> hall.takes(1, 0, 0));
    due(true, () -> hall.renounce(1, 0));
    due(false, () -> hall.renounce(1, 0));
    due(false, () -> hall.takes(1, 0, 0));
    due(true, () -> hall.takes(1, 2, 0));
    due(true, () -> hall.renounce(1, 2));
    due(true, () -> hall.renounce(0, 0));
    hall.die(0, 20);
    due(false, () -> hall.takes(1, 0, 0));
  }

  static void promise11Thing() {
    Probatehall hall = hall('s', 1);
    due(INDEX, () -> hall.thing(1, 5, true, 0));
    due(INDEX, () -> hall.thing(-1, 5, true, 0));
    due(INDEX, () -> hall.thing(0, 5, true, 1));
    due(INDEX, () -> hall.thing(0, 0, true, -1));
    due(ARGUMENT, () -> hall.thing(0, 0, true, 0));
    due(ARGUMENT, () -> hall.thing(0, 100000, true, 0));
    for (int count = 0; count < 20; count++) {
      int number = count;
      due(number, () -> hall.thing(0, number == 0 ? 1 : 99999, number % 2 == 0, 0));
    }
    due(STATE, () -> hall.thing(0, 1, true, 0));
    due(ARGUMENT, () -> hall.thing(0, 0, true, 0));
    hall.die(0, 0);
    due(1 + 19 * 99999, () -> hall.pool(0, 0));
    dueGets(hall, 0, 0, 0, 1 + 19 * 99999);
  }

  static void promise12Give() {
    Probatehall hall = hall('s', 3);
    due(INDEX, () -> hall.give(0, 1, 5));
    hall.thing(0, 40, false, 0);
    due(INDEX, () -> hall.give(-1, 1, 5));
    due(INDEX, () -> hall.give(0, 3, 5));
    due(INDEX, () -> hall.give(0, -1, -1));
    due(ARGUMENT, () -> hall.give(0, 1, -1));
    due(ARGUMENT, () -> hall.give(0, 1, 100000));
    due(ARGUMENT, () -> hall.give(0, 0, 5));
    due(-1, () -> hall.give(0, 1, 20));
    hall.die(1, 20);
    hall.die(0, 19);
    due(0, () -> hall.governs(0, 0));
    due(-1, () -> hall.governs(0, 1));
    hall.die(1, 21);
    due(-1, () -> hall.governs(0, 1));
    hall.die(0, 20);
    due(-1, () -> hall.governs(0, 0));
    due(0, () -> hall.governs(0, 1));
    hall.die(1, 20);
    due(-1, () -> hall.governs(0, 1));
    due(1, () -> hall.give(0, 2, 10));
    hall.die(2, 90);
    due(-1, () -> hall.governs(0, 1));
    due(0, () -> hall.governs(0, 2));
    due(2, () -> hall.give(0, 1, 0));
  }

  static void promise12GiveByTheLiving() {
    Probatehall hall = hall('s', 2);
    hall.thing(0, 40, false, 0);
    hall.give(0, 1, 30);
    hall.die(1, 31);
    due(0, () -> hall.governs(0, 1));
    hall.die(1, 30);
    due(-1, () -> hall.governs(0, 1));
  }

  static void promise13Debt() {
    Probatehall hall = hall('s', 1);
    due(INDEX, () -> hall.debt(1, 0, 5));
    due(INDEX, () -> hall.debt(-1, 4, 0));
    due(ARGUMENT, () -> hall.debt(0, -1, 5));
    due(ARGUMENT, () -> hall.debt(0, 4, 5));
    due(ARGUMENT, () -> hall.debt(0, 0, 0));
    due(ARGUMENT, () -> hall.debt(0, 0, 100000));
    for (int count = 0; count < 20; count++) {
      int number = count;
      due(number, () -> hall.debt(0, number % 4, number == 0 ? 1 : 99999));
    }
    due(STATE, () -> hall.debt(0, 0, 5));
    due(ARGUMENT, () -> hall.debt(0, 4, 5));
    due(INDEX, () -> hall.debt(1, 0, 5));
  }

  static void promise14Will() {
    Probatehall hall = hall('s', 1);
    due(INDEX, () -> hall.will(1, 5, true));
    due(INDEX, () -> hall.will(-1, -1, true));
    due(ARGUMENT, () -> hall.will(0, -1, true));
    due(ARGUMENT, () -> hall.will(0, 100000, true));
    for (int count = 0; count < 12; count++) {
      int number = count;
      due(number, () -> hall.will(0, number == 0 ? 0 : 99999, number % 2 == 0));
    }
    due(STATE, () -> hall.will(0, 5, true));
    due(ARGUMENT, () -> hall.will(0, -1, true));
  }

  static void promise15Revoke() {
    Probatehall hall = hall('s', 1);
    due(INDEX, () -> hall.revoke(0));
    hall.will(0, 5, true);
    hall.will(0, 6, true);
    hall.die(0, 9);
    due(1, () -> hall.inForce(0, 0));
    due(true, () -> hall.revoke(1));
    due(false, () -> hall.revoke(1));
    due(0, () -> hall.inForce(0, 0));
    due(true, () -> hall.revoke(0));
    due(-1, () -> hall.inForce(0, 0));
    due(INDEX, () -> hall.revoke(2));
    due(INDEX, () -> hall.revoke(-1));
  }

  static void promise16Clause() {
    Probatehall hall = hall('s', 2);
    due(INDEX, () -> hall.clause(0, 'm', 5, 0, -1));
    hall.will(0, 5, true);
    hall.will(0, 5, true);
    due(INDEX, () -> hall.clause(2, 'm', 5, 0, -1));
    due(INDEX, () -> hall.clause(-1, 'm', 5, 0, -1));
    due(INDEX, () -> hall.clause(0, 'm', 5, 2, -1));
    due(INDEX, () -> hall.clause(0, 'm', 5, -1, -1));
    due(INDEX, () -> hall.clause(0, 'm', 0, 0, 2));
    due(INDEX, () -> hall.clause(0, 'x', 5, 0, -2));
    due(INDEX, () -> hall.clause(0, 't', 0, 0, -1));
    hall.thing(1, 9, true, 0);
    due(INDEX, () -> hall.clause(0, 't', 1, 0, -1));
    due(INDEX, () -> hall.clause(0, 't', -1, 0, -1));
    due(ARGUMENT, () -> hall.clause(0, 'x', 5, 0, -1));
    due(ARGUMENT, () -> hall.clause(0, 'M', 5, 0, -1));
    due(ARGUMENT, () -> hall.clause(0, 'm', 0, 0, -1));
    due(ARGUMENT, () -> hall.clause(0, 'm', 100000, 0, -1));
    due(ARGUMENT, () -> hall.clause(0, 'r', 0, 0, -1));
    due(ARGUMENT, () -> hall.clause(0, 'r', 100, 0, -1));
    due(1, () -> hall.clause(0, 't', 0, 1, 0));
    due(2, () -> hall.clause(1, 'm', 1, 1, 1));
    due(3, () -> hall.clause(0, 'm', 99999, 0, -1));
    due(4, () -> hall.clause(0, 'r', 1, 0, -1));
    for (int count = 5; count <= 40; count++) {
      int number = count;
      due(number, () -> hall.clause(1, 'r', 99, 0, -1));
    }
    due(STATE, () -> hall.clause(0, 'r', 1, 0, -1));
    due(ARGUMENT, () -> hall.clause(0, 'r', 100, 0, -1));
    due(INDEX, () -> hall.clause(0, 't', 1, 0, -1));
  }

  static void promise17LivedIn() {
    Probatehall hall = hall('s', 2);
    hall.land('s', 0, 0, false, false, false);
    hall.land('s', 0, 0, false, false, false);
    hall.live(0, 1, 30);
    hall.live(0, 2, 20);
    hall.live(0, 2, 30);
    hall.live(0, 1, 30);
    due(0, () -> hall.livedIn(0, 19));
    due(2, () -> hall.livedIn(0, 20));
    due(2, () -> hall.livedIn(0, 29));
    due(1, () -> hall.livedIn(0, 30));
    due(1, () -> hall.livedIn(0, MAX));
    due(0, () -> hall.livedIn(0, MIN));
    due(0, () -> hall.livedIn(1, 99));
    due(INDEX, () -> hall.livedIn(2, 0));
    due(INDEX, () -> hall.livedIn(-1, 0));
    hall.live(1, 2, 0);
    due(0, () -> hall.livedIn(1, -1));
    due(2, () -> hall.livedIn(1, 0));
  }

  static void promise18Takes() {
    Probatehall hall = hall('s', 2);
    hall.land('s', 0, 10, false, false, false);
    hall.person(400, -1, -1);
    hall.person(401, -1, -1);
    due(NO_ELEMENT, () -> hall.takes(1, 0, 0));
    due(INDEX, () -> hall.takes(4, 0, 0));
    due(INDEX, () -> hall.takes(-1, 0, 0));
    due(INDEX, () -> hall.takes(0, 4, 0));
    due(INDEX, () -> hall.takes(0, 0, 2));
    due(INDEX, () -> hall.takes(0, 0, -1));
    hall.die(0, 100);
    due(true, () -> hall.takes(2, 0, 0));
    due(false, () -> hall.takes(3, 0, 0));
    due(false, () -> hall.takes(0, 0, 0));
    due(true, () -> hall.takes(1, 0, 1));
    hall.die(1, 110);
    due(false, () -> hall.takes(1, 0, 1));
    due(true, () -> hall.takes(1, 0, 0));
    hall.die(1, 111);
    due(true, () -> hall.takes(1, 0, 1));
    hall.die(1, 100);
    due(false, () -> hall.takes(1, 0, 0));
    due(false, () -> hall.takes(0, 1, 0));
  }

  static void promise19Spouse() {
    Probatehall hall = hall('s', 5);
    hall.land('s', 0, 5, false, false, false);
    due(NO_ELEMENT, () -> hall.spouse(0, 0));
    due(INDEX, () -> hall.spouse(5, 0));
    due(INDEX, () -> hall.spouse(0, 2));
    due(INDEX, () -> hall.spouse(0, -1));
    hall.die(0, 50);
    due(-1, () -> hall.spouse(0, 0));
    hall.marry(0, 1, 50);
    due(1, () -> hall.spouse(0, 0));
    hall.marry(2, 0, 50);
    due(2, () -> hall.spouse(0, 0));
    hall.marry(3, 0, 49);
    hall.marry(4, 0, 51);
    hall.marry(3, 4, 50);
    due(2, () -> hall.spouse(0, 0));
    hall.die(2, 53);
    due(2, () -> hall.spouse(0, 0));
    due(-1, () -> hall.spouse(0, 1));
    hall.part(1, 50);
    due(1, () -> hall.spouse(0, 1));
    hall.part(0, 51);
    due(1, () -> hall.spouse(0, 1));
    hall.setUnworthy(1, 0, true);
    due(-1, () -> hall.spouse(0, 0));
    hall.part(0, 50);
    due(3, () -> hall.spouse(0, 0));
  }

  static void promise20Throws() {
    Probatehall hall = hall('s', 1);
    due(NO_ELEMENT, () -> hall.shareTop(0, 0, 0));
    due(INDEX, () -> hall.shareTop(1, 0, 0));
    due(INDEX, () -> hall.shareTop(0, 1, 0));
    due(INDEX, () -> hall.shareTop(0, 0, 1));
    due(INDEX, () -> hall.shareTop(0, 0, -2));
    hall.die(0, 5);
    due(0L, () -> hall.shareTop(0, 0, 0));
    due(1L, () -> hall.shareTop(0, 0, -1));
  }

  static void promise21Throws() {
    Probatehall hall = hall('s', 1);
    due(NO_ELEMENT, () -> hall.shareBottom(0, 0, -1));
    due(INDEX, () -> hall.shareBottom(-1, 0, 0));
    due(INDEX, () -> hall.shareBottom(0, -1, 0));
    due(INDEX, () -> hall.shareBottom(0, 0, 1));
    due(INDEX, () -> hall.shareBottom(0, 0, -2));
    hall.die(0, 5);
    due(1L, () -> hall.shareBottom(0, 0, 0));
    due(1L, () -> hall.shareBottom(0, 0, -1));
  }

  /** 0 and 1 are the parents of 2 and 3; 4 is married to 2; 5, 6 and 7 are children of 2; 8 and 9 of 5. */
  private static Probatehall family(char system) {
    Probatehall hall = hall(system, 2);
    hall.person(20, 0, 1);
    hall.person(21, 0, 1);
    hall.person(22, -1, -1);
    hall.person(42, 2, 4);
    hall.person(41, 2, 4);
    hall.person(41, 4, 2);
    hall.person(60, 5, -1);
    hall.person(60, -1, 5);
    hall.die(2, 80);
    return hall;
  }

  static void promise20ByStocks() {
    Probatehall hall = family('s');
    dueShare(hall, 2, 0, 5, 1, 3);
    dueShare(hall, 2, 0, 8, 0, 1);
    hall.marry(4, 2, 40);
    dueShare(hall, 2, 0, 4, 1, 3);
    dueShare(hall, 2, 0, 5, 2, 9);
    hall.die(5, 79);
    dueShare(hall, 2, 0, 5, 0, 1);
    dueShare(hall, 2, 0, 8, 1, 9);
    dueShare(hall, 2, 0, 9, 1, 9);
    hall.renounce(8, 2);
    dueShare(hall, 2, 0, 9, 2, 9);
    hall.renounce(9, 2);
    dueShare(hall, 2, 0, 6, 1, 3);
    dueShare(hall, 2, 0, 0, 0, 1);
    hall.renounce(6, 2);
    hall.renounce(7, 2);
    dueShare(hall, 2, 0, 4, 1, 2);
    dueShare(hall, 2, 0, 0, 1, 4);
    hall.die(0, 80);
    dueShare(hall, 2, 0, 1, 1, 4);
    dueShare(hall, 2, 0, 3, 1, 4);
    hall.person(379, 3, 1);
    dueShare(hall, 2, 0, 3, 1, 4);
    hall.setUnworthy(1, 2, true);
    dueShare(hall, 2, 0, 3, 3, 8);
    dueShare(hall, 2, 0, 10, 1, 8);
    hall.setUnworthy(3, 2, true);
    dueShare(hall, 2, 0, 10, 1, 2);
    hall.setUnworthy(10, 2, true);
    dueShare(hall, 2, 0, 4, 1, 1);
    hall.part(0, 80);
    dueShare(hall, 2, 0, -1, 1, 1);
    due(true, hall::isConsistent);
  }

  static void promise20ByHeads() {
    Probatehall hall = family('h');
    hall.marry(4, 2, 40);
    dueShare(hall, 2, 0, 4, 1, 4);
    dueShare(hall, 2, 0, 7, 1, 4);
    hall.renounce(5, 2);
    dueShare(hall, 2, 0, 8, 0, 1);
    hall.renounce(6, 2);
    hall.renounce(7, 2);
    dueShare(hall, 2, 0, 8, 1, 3);
    hall.marry(2, 8, 79);
    dueShare(hall, 2, 0, 8, 1, 2);
    dueShare(hall, 2, 0, 9, 1, 2);
    hall.renounce(8, 2);
    dueShare(hall, 2, 0, 9, 1, 1);
    hall.renounce(9, 2);
    dueShare(hall, 2, 0, 0, 1, 2);
    hall.die(0, 10);
    dueShare(hall, 2, 0, 1, 1, 1);
    hall.person(25, 0, -1);
    hall.person(25, 10, -1);
    hall.setUnworthy(1, 2, true);
    dueShare(hall, 2, 0, 3, 1, 2);
    dueShare(hall, 2, 0, 10, 1, 2);
    hall.die(3, 80);
    hall.die(10, 80);
    dueShare(hall, 2, 0, 11, 0, 1);
    dueShare(hall, 2, 0, -1, 1, 1);
  }

  static void promise21ByFractions() {
    Probatehall hall = family('f');
    dueShare(hall, 2, 0, 0, 1, 8);
    dueShare(hall, 2, 0, 5, 1, 4);
    hall.marry(4, 2, 40);
    dueShare(hall, 2, 0, 4, 3, 19);
    dueShare(hall, 2, 0, 1, 2, 19);
    dueShare(hall, 2, 0, 6, 4, 19);
    hall.renounce(5, 2);
    dueShare(hall, 2, 0, 8, 0, 1);
    dueShare(hall, 2, 0, 6, 4, 15);
    hall.marry(2, 6, 41);
    dueShare(hall, 2, 0, 6, 7, 15);
    dueShare(hall, 2, 0, 4, 0, 1);
    hall.renounce(6, 2);
    hall.renounce(7, 2);
    hall.renounce(0, 2);
    dueShare(hall, 2, 0, 1, 1, 1);
    hall.renounce(1, 2);
    dueShare(hall, 2, 0, 3, 0, 1);
    dueShare(hall, 2, 0, -1, 1, 1);
  }

  static void promise21ByTheEldest() {
    Probatehall hall = family('e');
    dueShare(hall, 2, 0, 6, 1, 1);
    hall.renounce(6, 2);
    dueShare(hall, 2, 0, 7, 1, 1);
    hall.renounce(7, 2);
    dueShare(hall, 2, 0, 5, 1, 1);
    hall.renounce(5, 2);
    dueShare(hall, 2, 0, 8, 1, 1);
    hall.person(70, 7, -1);
    dueShare(hall, 2, 0, 10, 1, 1);
    hall.renounce(10, 2);
    hall.renounce(8, 2);
    dueShare(hall, 2, 0, 9, 1, 1);
    hall.renounce(9, 2);
    dueShare(hall, 2, 0, -1, 1, 1);
    hall.marry(2, 4, 0);
    dueShare(hall, 2, 0, 4, 1, 1);
    dueShare(hall, 2, 0, -1, 0, 1);
  }

  static void promise22Governs() {
    Probatehall hall = hall('s', 2);
    hall.land('s', 0, 0, false, true, false);
    hall.land('s', 0, 0, false, false, true);
    hall.thing(0, 1, false, 1);
    hall.thing(0, 1, true, 0);
    hall.thing(0, 1, true, 1);
    hall.thing(0, 1, true, 2);
    due(NO_ELEMENT, () -> hall.governs(0, 0));
    due(INDEX, () -> hall.governs(4, 0));
    due(INDEX, () -> hall.governs(-1, 0));
    due(INDEX, () -> hall.governs(0, 2));
    hall.die(0, 50);
    due(0, () -> hall.governs(0, 0));
    due(0, () -> hall.governs(1, 0));
    due(0, () -> hall.governs(2, 0));
    due(2, () -> hall.governs(3, 0));
    hall.live(0, 2, 50);
    due(1, () -> hall.governs(0, 0));
    due(0, () -> hall.governs(1, 0));
    due(2, () -> hall.governs(2, 0));
    hall.live(0, 1, 51);
    due(1, () -> hall.governs(0, 0));
    hall.die(0, 51);
    due(1, () -> hall.governs(0, 0));
    due(1, () -> hall.governs(2, 0));
    hall.die(1, 60);
    due(-1, () -> hall.governs(0, 1));
  }

  static void promise23InForce() {
    Probatehall hall = hall('s', 2);
    hall.land('s', 0, 0, true, false, false);
    due(NO_ELEMENT, () -> hall.inForce(0, 0));
    due(INDEX, () -> hall.inForce(0, -1));
    due(INDEX, () -> hall.inForce(2, 0));
    hall.die(0, 50);
    due(-1, () -> hall.inForce(0, 0));
    hall.will(0, 30, false);
    hall.will(0, 20, false);
    hall.will(0, 30, true);
    hall.will(0, 30, false);
    hall.will(0, 50, false);
    hall.will(0, 51, true);
    hall.will(0, 40, false);
    hall.will(1, 45, true);
    hall.will(0, 10, true);
    dueWills(hall, 0, 2, 3, 6, 4);
    hall.revoke(2);
    dueWills(hall, 0, 8, 1, 0, 3, 6, 4);
    hall.revoke(8);
    dueWills(hall, 0, 1, 0, 3, 6, 4);
    due(-1, () -> hall.inForce(0, MAX));
    hall.marry(1, 0, 30);
    hall.marry(1, 0, 51);
    dueWills(hall, 0, 1, 0, 3, 6, 4);
    hall.live(0, 1, 49);
    dueWills(hall, 0, 0, 3, 6, 4);
    hall.part(0, 31);
    dueWills(hall, 0, 0, 3, 6, 4);
    hall.marry(0, 1, 50);
    dueWills(hall, 0, 4);
  }

  static void promise24Pool() {
    Probatehall hall = hall('s', 2);
    hall.land('s', 0, 0, false, false, false);
    hall.thing(0, 10, false, 1);
    hall.thing(0, 7, true, 1);
    hall.thing(0, 3, true, 0);
    hall.thing(1, 100, false, 0);
    hall.debt(0, 0, 15);
    due(NO_ELEMENT, () -> hall.pool(0, 0));
    due(INDEX, () -> hall.pool(2, 0));
    due(INDEX, () -> hall.pool(0, 2));
    due(INDEX, () -> hall.pool(0, -1));
    hall.die(0, 9);
    due(13, () -> hall.pool(0, 0));
    due(7, () -> hall.pool(0, 1));
    hall.give(3, 0, 8);
    due(113, () -> hall.pool(0, 0));
  }

  static void promise25Free() {
    Probatehall hall = hall('s', 1);
    hall.land('s', 0, 0, false, false, false);
    hall.land('s', 0, 0, false, false, false);
    hall.thing(0, 10, true, 0);
    hall.thing(0, 10, true, 1);
    hall.thing(0, 10, true, 2);
    due(NO_ELEMENT, () -> hall.free(0, 0));
    due(INDEX, () -> hall.free(1, 0));
    due(INDEX, () -> hall.free(0, 3));
    hall.die(0, 9);
    due(10, () -> hall.free(0, 0));
    hall.debt(0, 3, 10);
    due(6, () -> hall.free(0, 0));
    due(7, () -> hall.free(0, 1));
    due(7, () -> hall.free(0, 2));
    hall.debt(0, 3, 1);
    due(6, () -> hall.free(0, 1));
    due(7, () -> hall.free(0, 2));
    hall.debt(0, 0, 99999);
    due(0, () -> hall.free(0, 2));
    dueGets(hall, 0, 0, 0, 0);
  }

  static void promise26PaidOf() {
    Probatehall hall = hall('s', 2);
    hall.land('s', 0, 0, false, false, false);
    due(INDEX, () -> hall.paidOf(0));
    hall.debt(0, 2, 6);
    hall.debt(0, 1, 10);
    hall.debt(0, 1, 10);
    hall.debt(0, 1, 10);
    hall.debt(1, 0, 50);
    hall.debt(0, 0, 5);
    due(NO_ELEMENT, () -> hall.paidOf(0));
    due(INDEX, () -> hall.paidOf(-1));
    due(INDEX, () -> hall.paidOf(6));
    hall.die(0, 9);
    due(0, () -> hall.paidOf(5));
    hall.thing(0, 13, true, 1);
    hall.thing(0, 12, true, 0);
    due(5, () -> hall.paidOf(5));
    due(7, () -> hall.paidOf(1));
    due(7, () -> hall.paidOf(2));
    due(6, () -> hall.paidOf(3));
    due(0, () -> hall.paidOf(0));
    due(NO_ELEMENT, () -> hall.paidOf(4));
    hall.thing(0, 13, true, 0);
    due(10, () -> hall.paidOf(3));
    due(3, () -> hall.paidOf(0));
    due(0, () -> hall.free(0, 1));
    hall.thing(0, 13, true, 0);
    due(6, () -> hall.paidOf(0));
  }

  static void promise27Claims() {
    Probatehall hall = new Probatehall();
    hall.land('s', 6, 0, false, false, false);
    hall.land('h', 12, 20, false, false, false);
    hall.person(0, -1, -1);
    hall.person(1, -1, -1);
    hall.person(30, 0, -1);
    hall.person(31, 0, -1);
    hall.person(50, 2, -1);
    hall.marry(0, 1, 20);
    hall.thing(0, 101, true, 0);
    hall.thing(0, 50, true, 1);
    due(NO_ELEMENT, () -> hall.claims(0, 0, 1));
    due(INDEX, () -> hall.claims(5, 0, 1));
    due(INDEX, () -> hall.claims(0, 2, 1));
    due(INDEX, () -> hall.claims(0, 0, 5));
    due(INDEX, () -> hall.claims(0, 0, -1));
    hall.die(0, 60);
    due(0, () -> hall.claims(0, 0, 1));
    hall.will(0, 60, false);
    due(16, () -> hall.claims(0, 0, 1));
    due(16, () -> hall.claims(0, 0, 2));
    due(0, () -> hall.claims(0, 0, 4));
    due(16, () -> hall.claims(0, 1, 3));
    hall.debt(0, 0, 3);
    due(99, () -> hall.free(0, 0));
    due(16, () -> hall.claims(0, 0, 1));
    hall.die(1, 61);
    due(24, () -> hall.claims(0, 1, 3));
    due(16, () -> hall.claims(0, 0, 1));
    due(0, () -> hall.claims(0, 1, 1));
    hall.renounce(2, 0);
    due(16, () -> hall.claims(0, 0, 4));
    hall.revoke(0);
    due(0, () -> hall.claims(0, 0, 4));
  }

  static void promise27NoClaimsOfParents() {
    Probatehall hall = new Probatehall();
    hall.land('s', 12, 0, false, false, false);
    hall.person(0, -1, -1);
    hall.person(20, 0, -1);
    hall.person(0, -1, -1);
    hall.thing(1, 90, false, 0);
    hall.will(1, 30, true);
    hall.clause(0, 'r', 1, 2, -1);
    hall.die(1, 40);
    dueShare(hall, 1, 0, 0, 1, 1);
    due(0, () -> hall.claims(1, 0, 0));
    dueGets(hall, 1, 0, 0, 0, 90, 0);
  }

  static void promise28Throws() {
    Probatehall hall = hall('s', 1);
    due(NO_ELEMENT, () -> hall.gets(0, 0, -1));
    due(INDEX, () -> hall.gets(1, 0, 0));
    due(INDEX, () -> hall.gets(0, 1, 0));
    due(INDEX, () -> hall.gets(0, 0, 1));
    due(INDEX, () -> hall.gets(0, 0, -2));
  }

  static void promise28WithoutWill() {
    Probatehall hall = family('s');
    hall.thing(2, 11, false, 0);
    dueGets(hall, 2, 0, 0, 0, 0, 0, 0, 4, 4, 3, 0, 0, 0);
    hall.marry(2, 4, 50);
    dueGets(hall, 2, 0, 0, 0, 0, 0, 4, 3, 2, 2, 0, 0, 0);
    hall.die(2, 49);
    dueGets(hall, 2, 0, 0, 0, 0, 0, 0, 4, 4, 3, 0, 0, 0);
  }

  /** A dead one with movables in the land 0, where this one lived, and land in the land 1. */
  private static Probatehall testator() {
    Probatehall hall = hall('s', 5);
    hall.land('s', 0, 0, false, false, false);
    hall.thing(0, 30, false, 0);
    hall.thing(0, 20, false, 0);
    hall.thing(0, 50, false, 0);
    hall.thing(0, 40, true, 1);
    hall.thing(4, 9, false, 0);
    hall.will(0, 10, true);
    hall.die(0, 99);
    return hall;
  }

  static void promise28Things() {
    Probatehall hall = testator();
    hall.clause(0, 't', 0, 1, -1);
    hall.clause(0, 't', 3, 2, -1);
    hall.clause(0, 't', 4, 2, -1);
    dueGets(hall, 0, 0, 0, 30, 0, 0, 0, 70);
    dueGets(hall, 0, 1, 0, 0, 40, 0, 0, 0);
    hall.clause(0, 't', 0, 3, -1);
    dueGets(hall, 0, 0, 0, 0, 0, 30, 0, 70);
    hall.clause(0, 't', 0, 0, -1);
    dueGets(hall, 0, 0, 0, 0, 0, 30, 0, 70);
    hall.clause(0, 't', 0, 0, 2);
    dueGets(hall, 0, 0, 0, 0, 30, 0, 0, 70);
    hall.setUnworthy(2, 0, true);
    dueGets(hall, 0, 0, 0, 0, 0, 30, 0, 70);
    dueGets(hall, 0, 1, 0, 0, 0, 0, 0, 40);
  }

  static void promise28ThingsCut() {
    Probatehall hall = testator();
    hall.clause(0, 't', 1, 1, -1);
    hall.clause(0, 't', 0, 2, -1);
    hall.clause(0, 'm', 1, 3, -1);
    hall.clause(0, 'r', 1, 3, -1);
    // 140 in all, 105 paid, so 75 and 30 borne: 25 are free, and the things want 50.
    hall.debt(0, 0, 105);
    due(25, () -> hall.free(0, 0));
    dueGets(hall, 0, 0, 0, 10, 15, 0, 0, 0);
    dueGets(hall, 0, 1, 0, 0, 0, 10, 0, 0);
    hall.debt(0, 1, 1);
    // 24 by 30 and 20: 14.4 and 9.6.
    dueGets(hall, 0, 0, 0, 10, 14, 0, 0, 0);
    hall.debt(0, 1, 18);
    // 11 are left of both: 12 borne less; equal remainders give the coin to the first thing, which is 2's.
    due(11, () -> hall.free(0, 0));
    dueGets(hall, 0, 0, 0, 4, 7, 0, 0, 0);
  }

  static void promise28ThingsOfOneRemainder() {
    Probatehall hall = hall('s', 3);
    hall.thing(0, 10, false, 0);
    hall.thing(0, 10, false, 0);
    hall.debt(0, 0, 17);
    hall.will(0, 10, true);
    hall.clause(0, 't', 1, 1, -1);
    hall.clause(0, 't', 0, 2, -1);
    hall.die(0, 99);
    dueGets(hall, 0, 0, 0, 1, 2, 0);
  }

  static void promise28Sums() {
    Probatehall hall = testator();
    hall.clause(0, 'm', 60, 1, -1);
    hall.clause(0, 'm', 30, 2, -1);
    hall.clause(0, 'm', 9, 1, -1);
    dueGets(hall, 0, 0, 0, 69, 30, 0, 0, 1);
    dueGets(hall, 0, 1, 0, 0, 0, 0, 0, 40);
    hall.clause(0, 't', 2, 3, -1);
    // 50 by 60, 30 and 9: 30.30, 15.15 and 4.54.
    dueGets(hall, 0, 0, 0, 35, 15, 50, 0, 0);
    hall.clause(0, 'm', 1, 0, -1);
    dueGets(hall, 0, 0, 0, 35, 15, 50, 0, 0);
    hall.live(0, 1, 99);
    dueGets(hall, 0, 0, 0, 0, 0, 0, 0, 0);
    // 90 by 60, 30 and 9: 54.55, 27.27 and 8.18.
    dueGets(hall, 0, 1, 0, 63, 27, 50, 0, 0);
    hall.clause(0, 'm', 300, 4, 1);
    due(true, hall::isConsistent);
    // 90 by 60, 30, 9 and 300: 13.53, 6.77, 2.03 and 67.67.
    dueGets(hall, 0, 1, 0, 15, 7, 50, 68, 0);
  }

  static void promise28Rest() {
    Probatehall hall = testator();
    hall.clause(0, 'r', 1, 3, -1);
    hall.clause(0, 'r', 1, 1, -1);
    hall.clause(0, 'r', 1, 2, -1);
    dueGets(hall, 0, 0, 0, 33, 33, 34, 0, 0);
    dueGets(hall, 0, 1, 0, 13, 13, 14, 0, 0);
    hall.clause(0, 'm', 9, 1, -1);
    dueGets(hall, 0, 0, 0, 39, 30, 31, 0, 0);
    hall.will(0, 20, false);
    hall.clause(1, 'r', 99, 0, -1);
    dueGets(hall, 0, 0, 0, 39, 30, 31, 0, 0);
    hall.clause(1, 'r', 99, 0, 4);
    hall.clause(1, 'r', 33, 2, -1);
    dueGets(hall, 0, 0, 0, 9, 23, 0, 68, 0);
    hall.will(0, 15, false);
    hall.clause(2, 'r', 1, 1, -1);
    dueGets(hall, 0, 0, 0, 9, 23, 0, 68, 0);
    hall.setUnworthy(4, 0, true);
    hall.setUnworthy(2, 0, true);
    dueGets(hall, 0, 0, 0, 100, 0, 0, 0, 0);
    hall.setUnworthy(1, 0, true);
    dueGets(hall, 0, 0, 0, 0, 0, 100, 0, 0);
    hall.setUnworthy(3, 0, true);
    dueGets(hall, 0, 0, 0, 0, 0, 0, 0, 100);
  }

  static void promise28TakersByHomeLaw() {
    Probatehall hall = testator();
    hall.land('s', 0, 9, false, false, false);
    hall.clause(0, 't', 3, 1, 2);
    hall.die(1, 105);
    dueGets(hall, 0, 1, 0, 40, 0, 0, 0, 0);
    hall.live(0, 2, 50);
    dueGets(hall, 0, 1, 0, 0, 40, 0, 0, 0);
  }

  static void promise28Forced() {
    Probatehall hall = new Probatehall();
    hall.land('s', 6, 0, false, false, false);
    hall.person(0, -1, -1);
    hall.person(20, 0, -1);
    hall.person(21, 0, -1);
    hall.person(0, -1, -1);
    hall.person(0, -1, -1);
    hall.thing(0, 101, false, 0);
    hall.will(0, 30, true);
    hall.clause(0, 'r', 2, 4, -1);
    hall.clause(0, 'r', 1, 3, -1);
    hall.die(0, 40);
    // The children claim 25 each; 67 and 34 bear 50: 33.17 and 16.83.
    due(25, () -> hall.claims(0, 0, 1));
    dueGets(hall, 0, 0, 0, 25, 25, 17, 34, 0);
    hall.clause(0, 'm', 30, 2, -1);
    // 71 by 2 and 1: 47 and 24; of 5, 24 and 47 above bear 25: 1.64, 7.89 and 15.46.
    dueGets(hall, 0, 0, 0, 25, 28, 16, 32, 0);
    hall.revoke(0);
    dueGets(hall, 0, 0, 0, 51, 50, 0, 0, 0);
    hall.will(0, 31, false);
    hall.clause(1, 'm', 90, 3, -1);
    // 11 are left for the children, 6 and 5: 19 and 20 are missing.
    dueGets(hall, 0, 0, 0, 25, 25, 51, 0, 0);
  }

  static void promise28ForcedByTheLand() {
    Probatehall hall = new Probatehall();
    hall.land('f', 12, 0, false, false, false);
    hall.land('h', 12, 9, false, false, false);
    hall.person(0, -1, -1);
    hall.person(0, -1, -1);
    hall.marry(0, 1, 5);
    hall.thing(0, 100, true, 1);
    hall.thing(0, 100, true, 0);
    hall.will(0, 7, true);
    hall.die(0, 9);
    hall.die(1, 12);
    dueGets(hall, 0, 0, 0, 100, 0);
    dueGets(hall, 0, 1, 0, 0, 100);
  }

  static void promise29Tax() {
    Probatehall hall = hall('s', 3);
    hall.land('s', 0, 9, false, false, false);
    hall.person(20, 0, -1);
    hall.person(40, 3, -1);
    hall.marry(0, 1, 5);
    hall.thing(0, 99, false, 0);
    hall.thing(0, 99, true, 1);
    hall.taxes(0, 10, 50);
    hall.taxes(1, 1, 99);
    due(NO_ELEMENT, () -> hall.tax(0, 0, 1));
    due(INDEX, () -> hall.tax(5, 0, 1));
    due(INDEX, () -> hall.tax(0, 2, 1));
    due(INDEX, () -> hall.tax(0, 0, 5));
    due(INDEX, () -> hall.tax(0, 0, -1));
    hall.die(0, 50);
    due(3, () -> hall.tax(0, 0, 1));
    due(6, () -> hall.tax(0, 0, 3));
    due(0, () -> hall.tax(0, 1, 3));
    due(0, () -> hall.tax(0, 0, 2));
    hall.will(0, 7, true);
    hall.clause(0, 'r', 1, 1, -1);
    hall.clause(0, 'r', 1, 2, -1);
    hall.clause(0, 'r', 1, 4, -1);
    due(3, () -> hall.tax(0, 0, 1));
    due(16, () -> hall.tax(0, 0, 2));
    due(3, () -> hall.tax(0, 0, 4));
    hall.die(1, 55);
    due(3, () -> hall.tax(0, 0, 1));
    due(32, () -> hall.tax(0, 1, 1));
  }

  static void promise30PaidShare() {
    Probatehall hall = hall('s', 2);
    due(ARITHMETIC, hall::paidShare);
    hall.debt(0, 0, 30);
    hall.debt(0, 1, 33);
    hall.debt(1, 0, 7);
    due(ARITHMETIC, hall::paidShare);
    hall.die(0, 5);
    due(0.0f, hall::paidShare);
    hall.thing(0, 40, false, 0);
    due(40.0f / 63.0f, hall::paidShare);
    hall.die(1, 5);
    due(40.0f / 70.0f, hall::paidShare);
    hall.thing(0, 400, false, 0);
    hall.thing(1, 7, false, 0);
    due(1.0f, hall::paidShare);
  }

  static void promise31MeanValue() {
    Probatehall hall = hall('s', 1);
    due(ARITHMETIC, hall::meanValue);
    hall.thing(0, 99999, false, 0);
    due(99999.0, hall::meanValue);
    hall.thing(0, 1, true, 0);
    hall.thing(0, 1, true, 0);
    due(100001.0 / 3.0, hall::meanValue);
  }

  static void promise32OnTheDayNought() {
    Probatehall hall = hall('s', 3);
    hall.marry(0, 1, 0);
    hall.part(0, 0);
    hall.thing(0, 8, false, 0);
    hall.thing(0, 5, false, 0);
    hall.give(0, 1, 1);
    hall.give(1, 1, 0);
    hall.debt(0, 0, 16);
    hall.will(0, 0, false);
    hall.die(1, 90);
    due(0, () -> hall.governs(0, 1));
    hall.die(0, 0);
    due(-1, () -> hall.spouse(0, 0));
    due(0, () -> hall.inForce(0, 0));
    due(0, () -> hall.governs(0, 0));
    due(-1, () -> hall.governs(0, 1));
    due(-1, () -> hall.governs(1, 0));
    due(0, () -> hall.governs(1, 1));
    due(0.5f, hall::paidShare);
    due(true, hall::isConsistent);
  }

  static void promise28ToThePersonNought() {
    Probatehall hall = new Probatehall();
    hall.land('s', 12, 0, false, false, false);
    hall.person(0, -1, -1);
    hall.person(0, -1, -1);
    hall.person(0, -1, -1);
    hall.marry(0, 1, 3);
    hall.thing(1, 10, false, 0);
    hall.thing(1, 10, false, 0);
    hall.die(1, 9);
    dueGets(hall, 1, 0, 20, 0, 0, 0);
    hall.will(1, 5, true);
    hall.clause(0, 'r', 1, 2, 0);
    due(20, () -> hall.claims(1, 0, 0));
    dueGets(hall, 1, 0, 20, 0, 0, 0);
    hall.part(0, 8);
    dueGets(hall, 1, 0, 0, 0, 20, 0);
    hall.clause(0, 't', 0, 0, -1);
    dueGets(hall, 1, 0, 10, 0, 10, 0);
    hall.setUnworthy(2, 1, true);
    dueGets(hall, 1, 0, 20, 0, 0, 0);
  }

  static void promise32IsConsistent() {
    for (char system : "shfe".toCharArray()) {
      Probatehall hall = family(system);
      for (int thing = 0; thing < 20; thing++) {
        hall.thing(2, 99999 - thing, thing % 2 == 0, 0);
      }
      due(true, hall::isConsistent);
      hall.marry(2, 4, 50);
      hall.debt(2, 0, 77777);
      hall.die(5, 80);
      hall.will(2, 60, true);
      hall.clause(0, 'r', 99, 3, -1);
      due(true, hall::isConsistent);
      hall.die(0, 1);
      hall.die(4, 80);
      due(true, hall::isConsistent);
    }
  }

  /** Each person has the two ahead as parents, so that parts come down on many ways. */
  static void promise32LongestLines() {
    Probatehall hall = hall('s', 0);
    hall.person(0, -1, -1);
    for (int number = 1; number < 16; number++) {
      hall.person(number, number - 1, number - 2);
    }
    for (int number = 0; number < 15; number++) {
      hall.die(number, 20);
    }
    hall.thing(0, 99999, false, 0);
    dueShare(hall, 0, 0, 15, 1, 1);
    hall.die(14, 99);
    dueShare(hall, 0, 0, 14, 10923, 16384);
    dueShare(hall, 0, 0, 15, 5461, 16384);
    dueGets(hall, 0, 0, 0, 0, 0, 0, 0, 0, 0, 0, 0, 0, 0, 0, 0, 0, 66668, 33331, 0);
  }
}
