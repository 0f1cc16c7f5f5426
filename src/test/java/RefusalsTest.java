import java.util.List;

/**
 * The ranges of the parameters and the rows "Throws ..", promise by promise. Each refused call is put to a hall that
 * holds some of each kind and to one that is full, must throw what is listed first, and must leave all as it was.
 */
public final class RefusalsTest extends Checks {
  private interface Put {
    Object to(Probatehall hall);
  }

  public static void main(String[] args) throws Exception {
    runTests(RefusalsTest.class, 73, "promise");
  }

  /** What is refused changes nothing: all that can be asked, and all that is told next, is answered as without it. */
  private static void refused(Told told, Class<?> due, Put put) {
    for (int round = 0; round < told.rounds(); round++) {
      int asked = round;
      Probatehall hall = told.hall();
      due(due, () -> put.to(hall));
      List<Object> found = told.answers(hall, asked);
      due(told.sparedAnswers(asked), () -> found);
    }
  }

  private static void accepted(Object due, Put put) {
    due(due, () -> put.to(Told.SOME.hall()));
  }

  /** Numbers that no kind of so many has. */
  private static int[] outside(int count) {
    return new int[] {MIN, -1, count, MAX};
  }

  private static int[] outsideAndNotNone(int count) {
    return new int[] {MIN, -2, count, MAX};
  }

  private static int[] beyond(int least, int most) {
    return new int[] {MIN, least - 1, most + 1, MAX};
  }

  // ---- promise 2: land

  static void promise02Systems() {
    for (char system : "shfe".toCharArray()) {
      accepted(2, hall -> hall.land(system, 0, 0, false, false, false));
    }
  }

  static void promise02NoSuchSystem() {
    for (Told told : Told.values()) {
      for (char system : new char[] {0, 'S', 'H', 'F', 'E', 'd', 'g', 'i', 'r', 't', 255, 's' + 256, 65535}) {
        refused(told, ARGUMENT, hall -> hall.land(system, 0, 0, false, false, false));
      }
    }
  }

  static void promise02Forced() {
    accepted(2, hall -> hall.land('s', 0, 5, true, true, true));
    accepted(2, hall -> hall.land('s', 12, 5, true, true, true));
    for (Told told : Told.values()) {
      for (int forced : beyond(0, 12)) {
        refused(told, ARGUMENT, hall -> hall.land('s', forced, 0, false, false, false));
      }
    }
  }

  static void promise02Survival() {
    accepted(2, hall -> hall.land('s', 5, 0, true, true, true));
    accepted(2, hall -> hall.land('s', 5, 999, true, true, true));
    for (Told told : Told.values()) {
      for (int survival : beyond(0, 999)) {
        refused(told, ARGUMENT, hall -> hall.land('s', 0, survival, false, false, false));
      }
    }
  }

  static void promise02FourLands() {
    Probatehall hall = new Probatehall();
    for (int count = 0; count < 4; count++) {
      int number = count;
      due(number, () -> hall.land('s', 0, 0, false, false, false));
    }
    due(STATE, () -> hall.land('s', 0, 0, false, false, false));
    refused(Told.FULL, STATE, full -> full.land('h', 5, 5, true, true, true));
  }

  // ---- promise 3: taxes

  static void promise03Percentages() {
    accepted(1020, hall -> hall.taxes(0, 0, 0));
    accepted(730, hall -> hall.taxes(1, 99, 99));
    for (Told told : Told.values()) {
      for (int percent : beyond(0, 99)) {
        refused(told, ARGUMENT, hall -> hall.taxes(1, percent, 5));
        refused(told, ARGUMENT, hall -> hall.taxes(1, 5, percent));
      }
    }
  }

  static void promise03NoSuchLand() {
    for (Told told : Told.values()) {
      for (int land : outside(told.lands)) {
        refused(told, INDEX, hall -> hall.taxes(land, 5, 5));
        refused(told, INDEX, hall -> hall.taxes(land, 100, -1));
      }
    }
  }

  // ---- promise 4: person

  static void promise04Born() {
    accepted(6, hall -> hall.person(0, -1, -1));
    accepted(6, hall -> hall.person(99999, 5, 0));
    for (Told told : Told.values()) {
      for (int born : beyond(0, 99999)) {
        refused(told, ARGUMENT, hall -> hall.person(born, 0, 1));
        refused(told, ARGUMENT, hall -> hall.person(born, told.people, -2));
      }
    }
  }

  static void promise04SameParents() {
    accepted(6, hall -> hall.person(5, -1, -1));
    for (Told told : Told.values()) {
      for (int parent : new int[] {0, told.people - 1, told.people, MAX, -2, MIN}) {
        refused(told, ARGUMENT, hall -> hall.person(5, parent, parent));
      }
    }
  }

  static void promise04NoSuchParent() {
    accepted(6, hall -> hall.person(5, 5, -1));
    accepted(6, hall -> hall.person(5, -1, 5));
    for (Told told : Told.values()) {
      for (int parent : outsideAndNotNone(told.people)) {
        refused(told, INDEX, hall -> hall.person(5, parent, -1));
        refused(told, INDEX, hall -> hall.person(5, -1, parent));
        refused(told, INDEX, hall -> hall.person(5, parent, 0));
        refused(told, INDEX, hall -> hall.person(5, 0, parent));
      }
    }
  }

  static void promise04NobodyIsTheOwnParent() {
    Probatehall hall = new Probatehall();
    due(INDEX, () -> hall.person(5, 0, -1));
    due(INDEX, () -> hall.person(5, -1, 0));
    due(0, () -> hall.person(5, -1, -1));
    due(INDEX, () -> hall.person(5, 0, 1));
    due(1, () -> hall.person(5, 0, -1));
  }

  static void promise04SixteenPeople() {
    Probatehall hall = new Probatehall();
    for (int count = 0; count < 16; count++) {
      int number = count;
      due(number, () -> hall.person(5, -1, number - 1));
    }
    due(STATE, () -> hall.person(5, -1, -1));
    refused(Told.FULL, STATE, full -> full.person(0, -1, -1));
    refused(Told.FULL, STATE, full -> full.person(99999, 15, 0));
  }

  // ---- promise 5: die

  static void promise05Day() {
    accepted(-1, hall -> hall.die(4, 60));
    accepted(-1, hall -> hall.die(4, 99999));
    accepted(80, hall -> hall.die(0, 0));
    accepted(81, hall -> hall.die(2, 30));
    for (Told told : Told.values()) {
      for (int day : beyond(0, 99999)) {
        refused(told, ARGUMENT, hall -> hall.die(0, day));
      }
    }
    refused(Told.SOME, ARGUMENT, hall -> hall.die(2, 29));
    refused(Told.SOME, ARGUMENT, hall -> hall.die(4, 59));
    refused(Told.FULL, ARGUMENT, hall -> hall.die(15, 149));
  }

  static void promise05NoSuchPerson() {
    for (Told told : Told.values()) {
      for (int person : outside(told.people)) {
        refused(told, INDEX, hall -> hall.die(person, 500));
        refused(told, INDEX, hall -> hall.die(person, -1));
      }
    }
  }

  // ---- promise 6: marry

  static void promise06NoSuchPerson() {
    for (Told told : Told.values()) {
      for (int person : outside(told.people)) {
        refused(told, INDEX, hall -> hall.marry(person, 0, 5));
        refused(told, INDEX, hall -> hall.marry(0, person, 5));
        refused(told, INDEX, hall -> hall.marry(person, person, -1));
        refused(told, INDEX, hall -> hall.marry(0, person, 100000));
      }
    }
  }

  static void promise06Same() {
    for (Told told : Told.values()) {
      refused(told, ARGUMENT, hall -> hall.marry(0, 0, 5));
      refused(told, ARGUMENT, hall -> hall.marry(told.people - 1, told.people - 1, 5));
    }
  }

  static void promise06Day() {
    accepted(2, hall -> hall.marry(0, 5, 0));
    accepted(2, hall -> hall.marry(5, 0, 99999));
    for (Told told : Told.values()) {
      for (int day : beyond(0, 99999)) {
        refused(told, ARGUMENT, hall -> hall.marry(1, 5, day));
      }
    }
  }

  static void promise06TwentyMarriages() {
    Probatehall hall = hall('s', 2);
    for (int count = 0; count < 20; count++) {
      int number = count;
      due(number, () -> hall.marry(number % 2, 1 - number % 2, 5));
    }
    due(STATE, () -> hall.marry(0, 1, 5));
    refused(Told.FULL, STATE, full -> full.marry(0, 1, 0));
    refused(Told.FULL, STATE, full -> full.marry(15, 0, 99999));
  }

  // ---- promise 7: part

  static void promise07Day() {
    accepted(39, hall -> hall.part(0, 25));
    accepted(-1, hall -> hall.part(1, 40));
    accepted(-1, hall -> hall.part(1, 99999));
    for (Told told : Told.values()) {
      for (int day : beyond(0, 99999)) {
        refused(told, ARGUMENT, hall -> hall.part(1, day));
      }
    }
    refused(Told.SOME, ARGUMENT, hall -> hall.part(0, 24));
    refused(Told.SOME, ARGUMENT, hall -> hall.part(1, 39));
    refused(Told.FULL, ARGUMENT, hall -> hall.part(19, 94));
  }

  static void promise07NoSuchMarriage() {
    for (Told told : Told.values()) {
      for (int marriage : outside(told.marriages)) {
        refused(told, INDEX, hall -> hall.part(marriage, 500));
        refused(told, INDEX, hall -> hall.part(marriage, -1));
      }
    }
  }

  // ---- promise 8: live

  static void promise08NoSuchPersonOrLand() {
    for (Told told : Told.values()) {
      for (int person : outside(told.people)) {
        refused(told, INDEX, hall -> hall.live(person, 0, 5));
        refused(told, INDEX, hall -> hall.live(person, 0, -1));
      }
      for (int land : outside(told.lands)) {
        refused(told, INDEX, hall -> hall.live(0, land, 5));
        refused(told, INDEX, hall -> hall.live(0, land, 100000));
      }
    }
  }

  static void promise08Day() {
    accepted(0, hall -> hall.live(0, 1, 0));
    accepted(0, hall -> hall.live(0, 1, 49));
    accepted(1, hall -> hall.live(0, 0, 50));
    accepted(1, hall -> hall.live(0, 0, 99999));
    for (Told told : Told.values()) {
      for (int day : beyond(0, 99999)) {
        refused(told, ARGUMENT, hall -> hall.live(1, 1, day));
      }
    }
  }

  static void promise08SixtyDays() {
    Probatehall hall = hall('s', 2);
    for (int count = 0; count < 60; count++) {
      int day = count;
      due(0, () -> hall.live(day % 2, 0, day));
    }
    due(STATE, () -> hall.live(0, 0, 60));
    refused(Told.FULL, STATE, full -> full.live(0, 1, 5));
    refused(Told.FULL, STATE, full -> full.live(15, 3, 99999));
  }

  // ---- promise 9: setUnworthy

  static void promise09NoSuchPerson() {
    for (Told told : Told.values()) {
      for (int person : outside(told.people)) {
        refused(told, INDEX, hall -> hall.setUnworthy(person, 0, true));
        refused(told, INDEX, hall -> hall.setUnworthy(3, person, false));
        refused(told, INDEX, hall -> hall.setUnworthy(person, person, true));
      }
      // Numbers that would be taken for 0 or 2, if they wrapped around.
      for (int person : new int[] {32, 34, MIN + 2, -30}) {
        refused(told, INDEX, hall -> hall.setUnworthy(3, person, true));
        refused(told, INDEX, hall -> hall.setUnworthy(3, person, false));
        refused(told, INDEX, hall -> hall.renounce(3, person));
      }
    }
  }

  // ---- promise 10: renounce

  static void promise10NoSuchPerson() {
    for (Told told : Told.values()) {
      for (int person : outside(told.people)) {
        refused(told, INDEX, hall -> hall.renounce(person, 0));
        refused(told, INDEX, hall -> hall.renounce(person, 1));
        refused(told, INDEX, hall -> hall.renounce(3, person));
      }
    }
  }

  static void promise10NotDead() {
    accepted(true, hall -> hall.renounce(3, 0));
    for (Told told : Told.values()) {
      refused(told, NO_ELEMENT, hall -> hall.renounce(3, 1));
      refused(told, NO_ELEMENT, hall -> hall.renounce(1, 1));
    }
  }

  /** A renouncing that was refused is not there once the other one has died. */
  static void promise10NotDeadAndThenDead() {
    Probatehall hall = hall('s', 2);
    due(NO_ELEMENT, () -> hall.renounce(1, 0));
    hall.die(0, 5);
    due(true, () -> hall.takes(1, 0, 0));
    due(true, () -> hall.renounce(1, 0));
  }

  // ---- promise 11: thing

  static void promise11NoSuchPersonOrLand() {
    for (Told told : Told.values()) {
      for (int owner : outside(told.people)) {
        refused(told, INDEX, hall -> hall.thing(owner, 5, true, 0));
        refused(told, INDEX, hall -> hall.thing(owner, 0, true, 0));
      }
      for (int land : outside(told.lands)) {
        refused(told, INDEX, hall -> hall.thing(0, 5, false, land));
        refused(told, INDEX, hall -> hall.thing(0, 100000, false, land));
      }
    }
  }

  static void promise11Value() {
    accepted(4, hall -> hall.thing(0, 1, true, 1));
    accepted(4, hall -> hall.thing(0, 99999, true, 1));
    for (Told told : Told.values()) {
      for (int value : beyond(1, 99999)) {
        refused(told, ARGUMENT, hall -> hall.thing(0, value, false, 1));
      }
    }
  }

  static void promise11TwentyThings() {
    Probatehall hall = hall('s', 1);
    for (int count = 0; count < 20; count++) {
      int number = count;
      due(number, () -> hall.thing(0, 5, true, 0));
    }
    due(STATE, () -> hall.thing(0, 5, true, 0));
    refused(Told.FULL, STATE, full -> full.thing(0, 1, true, 0));
    refused(Told.FULL, STATE, full -> full.thing(15, 99999, false, 3));
  }

  // ---- promise 12: give

  static void promise12NoSuchThingOrPerson() {
    for (Told told : Told.values()) {
      for (int thing : outside(told.things)) {
        refused(told, INDEX, hall -> hall.give(thing, 1, 5));
        refused(told, INDEX, hall -> hall.give(thing, 1, -1));
      }
      for (int to : outside(told.people)) {
        refused(told, INDEX, hall -> hall.give(0, to, 5));
        refused(told, INDEX, hall -> hall.give(0, to, 100000));
      }
    }
  }

  static void promise12Day() {
    accepted(-1, hall -> hall.give(0, 1, 0));
    accepted(0, hall -> hall.give(2, 3, 99999));
    for (Told told : Told.values()) {
      for (int day : beyond(0, 99999)) {
        refused(told, ARGUMENT, hall -> hall.give(0, 1, day));
        refused(told, ARGUMENT, hall -> hall.give(2, 4, day));
      }
    }
  }

  static void promise12OwnerWhoWasTold() {
    refused(Told.SOME, ARGUMENT, hall -> hall.give(0, 0, 5));
    refused(Told.SOME, ARGUMENT, hall -> hall.give(2, 1, 5));
    refused(Told.FULL, ARGUMENT, hall -> hall.give(19, 1, 5));
    // The one to whom it was given is not the owner who was told.
    accepted(0, hall -> hall.give(2, 0, 5));
  }

  // ---- promise 13: debt

  static void promise13NoSuchPerson() {
    for (Told told : Told.values()) {
      for (int person : outside(told.people)) {
        refused(told, INDEX, hall -> hall.debt(person, 0, 5));
        refused(told, INDEX, hall -> hall.debt(person, 4, 0));
      }
    }
  }

  static void promise13Rank() {
    accepted(3, hall -> hall.debt(0, 0, 5));
    accepted(3, hall -> hall.debt(0, 3, 5));
    for (Told told : Told.values()) {
      for (int rank : beyond(0, 3)) {
        refused(told, ARGUMENT, hall -> hall.debt(0, rank, 5));
      }
    }
  }

  static void promise13Amount() {
    accepted(3, hall -> hall.debt(0, 0, 1));
    accepted(3, hall -> hall.debt(0, 0, 99999));
    for (Told told : Told.values()) {
      for (int amount : beyond(1, 99999)) {
        refused(told, ARGUMENT, hall -> hall.debt(0, 0, amount));
      }
    }
  }

  static void promise13TwentyDebts() {
    Probatehall hall = hall('s', 1);
    for (int count = 0; count < 20; count++) {
      int number = count;
      due(number, () -> hall.debt(0, 0, 5));
    }
    due(STATE, () -> hall.debt(0, 0, 5));
    refused(Told.FULL, STATE, full -> full.debt(0, 0, 1));
    refused(Told.FULL, STATE, full -> full.debt(15, 3, 99999));
  }

  // ---- promise 14: will

  static void promise14NoSuchPerson() {
    for (Told told : Told.values()) {
      for (int person : outside(told.people)) {
        refused(told, INDEX, hall -> hall.will(person, 5, true));
        refused(told, INDEX, hall -> hall.will(person, -1, false));
      }
    }
  }

  static void promise14Day() {
    accepted(3, hall -> hall.will(0, 0, true));
    accepted(3, hall -> hall.will(0, 99999, false));
    for (Told told : Told.values()) {
      for (int day : beyond(0, 99999)) {
        refused(told, ARGUMENT, hall -> hall.will(0, day, true));
        refused(told, ARGUMENT, hall -> hall.will(0, day, false));
      }
    }
  }

  static void promise14TwelveWills() {
    Probatehall hall = hall('s', 1);
    for (int count = 0; count < 12; count++) {
      int number = count;
      due(number, () -> hall.will(0, 5, true));
    }
    due(STATE, () -> hall.will(0, 5, true));
    refused(Told.FULL, STATE, full -> full.will(0, 200, true));
    refused(Told.FULL, STATE, full -> full.will(15, 0, false));
  }

  // ---- promise 15: revoke

  static void promise15NoSuchWill() {
    for (Told told : Told.values()) {
      for (int will : outside(told.wills)) {
        refused(told, INDEX, hall -> hall.revoke(will));
      }
    }
  }

  // ---- promise 16: clause

  static void promise16NoSuchWill() {
    for (Told told : Told.values()) {
      for (int will : outside(told.wills)) {
        refused(told, INDEX, hall -> hall.clause(will, 'm', 5, 1, -1));
        refused(told, INDEX, hall -> hall.clause(will, 'x', 5, 1, -1));
      }
    }
  }

  static void promise16NoSuchPerson() {
    for (Told told : Told.values()) {
      for (int person : outside(told.people)) {
        refused(told, INDEX, hall -> hall.clause(1, 'm', 5, person, -1));
        refused(told, INDEX, hall -> hall.clause(1, 'r', 0, person, 2));
      }
      for (int person : outsideAndNotNone(told.people)) {
        refused(told, INDEX, hall -> hall.clause(1, 'r', 5, 1, person));
        refused(told, INDEX, hall -> hall.clause(1, 'm', 100000, 1, person));
      }
    }
  }

  static void promise16NoSuchThing() {
    accepted(6, hall -> hall.clause(1, 't', 0, 1, -1));
    accepted(6, hall -> hall.clause(1, 't', 3, 1, -1));
    for (Told told : Told.values()) {
      for (int thing : outside(told.things)) {
        refused(told, INDEX, hall -> hall.clause(1, 't', thing, 1, -1));
      }
    }
  }

  static void promise16NoSuchKind() {
    for (Told told : Told.values()) {
      for (char kind : new char[] {0, 'T', 'M', 'R', 's', 'u', 'l', 'n', 'q', 255, 't' + 256, 65535}) {
        refused(told, ARGUMENT, hall -> hall.clause(1, kind, 1, 1, -1));
      }
    }
  }

  static void promise16Sum() {
    accepted(6, hall -> hall.clause(1, 'm', 1, 1, -1));
    accepted(6, hall -> hall.clause(1, 'm', 99999, 1, -1));
    for (Told told : Told.values()) {
      for (int sum : beyond(1, 99999)) {
        refused(told, ARGUMENT, hall -> hall.clause(1, 'm', sum, 1, -1));
      }
    }
  }

  static void promise16Parts() {
    accepted(6, hall -> hall.clause(1, 'r', 1, 1, -1));
    accepted(6, hall -> hall.clause(1, 'r', 99, 1, -1));
    for (Told told : Told.values()) {
      for (int parts : beyond(1, 99)) {
        refused(told, ARGUMENT, hall -> hall.clause(1, 'r', parts, 1, -1));
      }
    }
  }

  static void promise16FortyClauses() {
    Probatehall hall = hall('s', 1);
    hall.will(0, 5, true);
    hall.will(0, 5, true);
    for (int count = 1; count <= 40; count++) {
      int all = count;
      due(all, () -> hall.clause(all % 2, 'm', 5, 0, -1));
    }
    due(STATE, () -> hall.clause(0, 'm', 5, 0, -1));
    refused(Told.FULL, STATE, full -> full.clause(0, 't', 0, 0, -1));
    refused(Told.FULL, STATE, full -> full.clause(11, 'm', 99999, 15, 15));
    refused(Told.FULL, STATE, full -> full.clause(6, 'r', 1, 3, 4));
  }

  // ---- promise 17: livedIn

  static void promise17AnyDay() {
    accepted(0, hall -> hall.livedIn(0, MIN));
    accepted(0, hall -> hall.livedIn(0, -1));
    accepted(0, hall -> hall.livedIn(0, 49));
    accepted(1, hall -> hall.livedIn(0, 50));
    accepted(1, hall -> hall.livedIn(0, 100000));
    accepted(1, hall -> hall.livedIn(0, MAX));
  }

  static void promise17NoSuchPerson() {
    for (Told told : Told.values()) {
      for (int person : outside(told.people)) {
        refused(told, INDEX, hall -> hall.livedIn(person, 5));
      }
    }
  }

  // ---- promises 18 to 29: what is found

  private interface Question {
    Object of(Probatehall hall, int dead, int land, int person);
  }

  /** A question about a dead one and a land: neither may be missing, and what is missing is told first. */
  private static void refusedForDeadAndLand(Question question) {
    for (Told told : Told.values()) {
      for (int dead : outside(told.people)) {
        refused(told, INDEX, hall -> question.of(hall, dead, 0, 0));
      }
      for (int land : outside(told.lands)) {
        refused(told, INDEX, hall -> question.of(hall, 0, land, 0));
        refused(told, INDEX, hall -> question.of(hall, 1, land, 0));
      }
      refused(told, NO_ELEMENT, hall -> question.of(hall, 1, 0, 0));
      refused(told, NO_ELEMENT, hall -> question.of(hall, told.people - 1, told.lands - 1, 0));
    }
  }

  private static void refusedForPerson(Question question) {
    for (Told told : Told.values()) {
      for (int person : outsideAndNotNone(told.people)) {
        refused(told, INDEX, hall -> question.of(hall, 0, 0, person));
        refused(told, INDEX, hall -> question.of(hall, 1, 0, person));
      }
    }
  }

  private static void refusedForTheLand(Question question) {
    for (Told told : Told.values()) {
      refused(told, INDEX, hall -> question.of(hall, 0, 0, -1));
      refused(told, INDEX, hall -> question.of(hall, 1, 0, -1));
    }
  }

  static void promise18NoSuchDeadOrLand() {
    refusedForDeadAndLand((hall, dead, land, person) -> hall.takes(person, dead, land));
  }

  static void promise18NoSuchPerson() {
    Question takes = (hall, dead, land, person) -> hall.takes(person, dead, land);
    refusedForPerson(takes);
    refusedForTheLand(takes);
  }

  static void promise19NoSuchDeadOrLand() {
    refusedForDeadAndLand((hall, dead, land, person) -> hall.spouse(dead, land));
  }

  static void promise20NoSuchDeadOrLand() {
    refusedForDeadAndLand((hall, dead, land, person) -> hall.shareTop(dead, land, person));
    refusedForDeadAndLand((hall, dead, land, person) -> hall.shareTop(dead, land, -1));
  }

  static void promise20NoSuchPerson() {
    refusedForPerson((hall, dead, land, person) -> hall.shareTop(dead, land, person));
  }

  static void promise21NoSuchDeadOrLand() {
    refusedForDeadAndLand((hall, dead, land, person) -> hall.shareBottom(dead, land, person));
    refusedForDeadAndLand((hall, dead, land, person) -> hall.shareBottom(dead, land, -1));
  }

  static void promise21NoSuchPerson() {
    refusedForPerson((hall, dead, land, person) -> hall.shareBottom(dead, land, person));
  }

  static void promise22NoSuchThing() {
    for (Told told : Told.values()) {
      for (int thing : outside(told.things)) {
        refused(told, INDEX, hall -> hall.governs(thing, 0));
        refused(told, INDEX, hall -> hall.governs(thing, 1));
      }
    }
  }

  static void promise22NoSuchDead() {
    for (Told told : Told.values()) {
      for (int dead : outside(told.people)) {
        refused(told, INDEX, hall -> hall.governs(0, dead));
      }
      refused(told, NO_ELEMENT, hall -> hall.governs(0, 1));
      refused(told, NO_ELEMENT, hall -> hall.governs(told.things - 1, told.people - 1));
    }
  }

  static void promise23NoSuchDead() {
    for (Told told : Told.values()) {
      for (int dead : outside(told.people)) {
        refused(told, INDEX, hall -> hall.inForce(dead, 0));
      }
      refused(told, NO_ELEMENT, hall -> hall.inForce(1, 0));
      refused(told, NO_ELEMENT, hall -> hall.inForce(told.people - 1, MAX));
    }
  }

  static void promise23Index() {
    accepted(-1, hall -> hall.inForce(0, MAX));
    for (Told told : Told.values()) {
      for (int index : new int[] {-1, MIN}) {
        refused(told, INDEX, hall -> hall.inForce(0, index));
        refused(told, INDEX, hall -> hall.inForce(1, index));
      }
    }
  }

  static void promise24NoSuchDeadOrLand() {
    refusedForDeadAndLand((hall, dead, land, person) -> hall.pool(dead, land));
  }

  static void promise25NoSuchDeadOrLand() {
    refusedForDeadAndLand((hall, dead, land, person) -> hall.free(dead, land));
  }

  static void promise26NoSuchDebt() {
    for (Told told : Told.values()) {
      for (int debt : outside(told.debts)) {
        refused(told, INDEX, hall -> hall.paidOf(debt));
      }
    }
  }

  static void promise26NotDead() {
    Probatehall hall = hall('s', 2);
    hall.debt(1, 0, 5);
    hall.die(0, 9);
    due(NO_ELEMENT, () -> hall.paidOf(0));
    refused(Told.FULL, NO_ELEMENT, full -> full.paidOf(1));
  }

  static void promise27NoSuchDeadOrLand() {
    refusedForDeadAndLand((hall, dead, land, person) -> hall.claims(dead, land, person));
  }

  static void promise27NoSuchPerson() {
    Question claims = (hall, dead, land, person) -> hall.claims(dead, land, person);
    refusedForPerson(claims);
    refusedForTheLand(claims);
  }

  static void promise28NoSuchDeadOrLand() {
    refusedForDeadAndLand((hall, dead, land, person) -> hall.gets(dead, land, person));
    refusedForDeadAndLand((hall, dead, land, person) -> hall.gets(dead, land, -1));
  }

  static void promise28NoSuchPerson() {
    refusedForPerson((hall, dead, land, person) -> hall.gets(dead, land, person));
  }

  static void promise29NoSuchDeadOrLand() {
    refusedForDeadAndLand((hall, dead, land, person) -> hall.tax(dead, land, person));
  }

  static void promise29NoSuchPerson() {
    Question tax = (hall, dead, land, person) -> hall.tax(dead, land, person);
    refusedForPerson(tax);
    refusedForTheLand(tax);
  }

  // ---- promises 30 and 31: figures

  static void promise30NoDebtsOfTheDead() {
    Probatehall hall = hall('s', 2);
    hall.thing(0, 5, false, 0);
    due(ARITHMETIC, hall::paidShare);
    hall.debt(1, 0, 5);
    hall.die(0, 5);
    due(ARITHMETIC, hall::paidShare);
    due(5, () -> hall.free(0, 0));
    due(1, () -> hall.debt(0, 0, 1));
    due(1.0f, hall::paidShare);
  }

  static void promise31NoThings() {
    Probatehall hall = hall('s', 1);
    hall.die(0, 5);
    due(ARITHMETIC, hall::meanValue);
    due(0, () -> hall.thing(0, 1, false, 0));
    due(1.0, hall::meanValue);
  }
}
