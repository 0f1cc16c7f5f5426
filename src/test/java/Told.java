import java.util.ArrayList;
import java.util.List;

/** Halls to which something was told: some of each kind, or as much as there may be of each. */
enum Told {
  SOME(2, 6, 2, 4, 3, 3) {
    @Override
    Probatehall hall() {
      Probatehall hall = new Probatehall();
      hall.land('s', 6, 10, true, false, false);
      hall.land('f', 3, 0, false, true, true);
      hall.taxes(0, 10, 20);
      hall.taxes(1, 7, 30);
      hall.person(0, -1, -1);
      hall.person(5, -1, -1);
      hall.person(30, 0, 1);
      hall.person(35, 0, -1);
      hall.person(60, 2, -1);
      hall.person(10, -1, -1);
      hall.marry(0, 1, 25);
      hall.marry(0, 5, 40);
      hall.part(0, 39);
      hall.live(0, 1, 50);
      hall.live(3, 1, 60);
      hall.thing(0, 100, false, 0);
      hall.thing(0, 77, true, 1);
      hall.thing(1, 50, true, 0);
      hall.thing(2, 31, false, 1);
      hall.give(2, 0, 70);
      hall.debt(0, 1, 40);
      hall.debt(0, 0, 9);
      hall.debt(2, 0, 50);
      hall.will(0, 45, true);
      hall.will(0, 60, false);
      hall.will(0, 41, true);
      hall.clause(0, 't', 0, 3, -1);
      hall.clause(0, 'r', 2, 5, -1);
      hall.clause(0, 'r', 1, 4, 2);
      hall.clause(1, 'm', 30, 4, 5);
      hall.clause(2, 'r', 1, 1, -1);
      hall.die(0, 80);
      hall.die(2, 81);
      hall.setUnworthy(3, 2, true);
      hall.renounce(1, 2);
      return hall;
    }
  },

  FULL(4, 16, 20, 20, 20, 12) {
    @Override
    Probatehall hall() {
      Probatehall hall = new Probatehall();
      for (int land = 0; land < lands; land++) {
        hall.land("shfe".charAt(land), 3 * land, 100 * land, land % 2 == 0, land == 1, land == 2);
        hall.taxes(land, land, 99 - land);
      }
      for (int person = 0; person < people; person++) {
        int first = person < 2 ? -1 : (person - 2) / 2;
        hall.person(10 * person, first, person % 3 == 0 ? person - 1 : -1);
      }
      for (int marriage = 0; marriage < marriages; marriage++) {
        hall.marry(marriage % 16, (marriage + 1 + marriage / 16) % 16, 5 * marriage);
      }
      hall.part(3, 30);
      for (int stay = 0; stay < 60; stay++) {
        hall.live(stay % 16, stay % 4, 7 * stay);
      }
      for (int thing = 0; thing < things; thing++) {
        hall.thing(thing % 3, 5000 * thing + 1, thing % 2 == 0, thing % 4);
        hall.debt(thing % 4, thing % 4, 1000 * thing + 1);
      }
      hall.give(4, 5, 60);
      hall.give(7, 2, 60);
      for (int will = 0; will < wills; will++) {
        hall.will(will % 3, 9 * will, will % 4 == 0);
      }
      for (int clause = 0; clause < 40; clause++) {
        hall.clause(clause % 12, "tmr".charAt(clause % 3), 1 + clause % 19, clause % 16, clause % 5 - 1);
      }
      hall.die(0, 200);
      hall.die(2, 150);
      hall.setUnworthy(3, 2, true);
      hall.renounce(1, 2);
      return hall;
    }
  };

  private static final int[] DEAD = {0, 2};
  private static final int[] DAYS = {Integer.MIN_VALUE, -1, 0, 1, 10, 50, 51, 60, 99999};

  final int lands;
  final int people;
  final int marriages;
  final int things;
  final int debts;
  final int wills;
  private final List<List<Object>> spared = new ArrayList<>();

  Told(int lands, int people, int marriages, int things, int debts, int wills) {
    this.lands = lands;
    this.people = people;
    this.marriages = marriages;
    this.things = things;
    this.debts = debts;
    this.wills = wills;
  }

  abstract Probatehall hall();

  /** An object lives for 512 calls, so all that can be asked is asked in so many rounds, each on a new one. */
  int rounds() {
    return DEAD.length * lands + 2;
  }

  /** What a hall that met no refused call answers in a round. */
  List<Object> sparedAnswers(int round) {
    while (spared.size() <= round) {
      spared.add(answers(hall(), spared.size()));
    }
    return spared.get(round);
  }

  List<Object> answers(Probatehall hall, int round) {
    List<Object> answers = new ArrayList<>();
    if (round == 0) {
      askFacts(hall, answers);
    } else if (round == 1) {
      tellMore(hall, answers);
    } else {
      askEstate(hall, answers, DEAD[(round - 2) / lands], (round - 2) % lands);
    }
    return answers;
  }

  private static void add(List<Object> answers, Checks.Call call) {
    answers.add(Checks.answer(call));
  }

  private void askFacts(Probatehall hall, List<Object> answers) {
    for (int number = 0; number < people; number++) {
      int person = number;
      for (int day : DAYS) {
        add(answers, () -> hall.livedIn(person, day));
      }
      add(answers, () -> hall.pool(person, 0));
    }
    for (int number = 0; number < debts; number++) {
      int debt = number;
      add(answers, () -> hall.paidOf(debt));
    }
    add(answers, hall::paidShare);
    add(answers, hall::meanValue);
    add(answers, hall::isConsistent);
  }

  private void askEstate(Probatehall hall, List<Object> answers, int dead, int land) {
    add(answers, () -> hall.spouse(dead, land));
    add(answers, () -> hall.pool(dead, land));
    add(answers, () -> hall.free(dead, land));
    for (int number = -1; number < people; number++) {
      int person = number;
      add(answers, () -> hall.shareTop(dead, land, person));
      add(answers, () -> hall.shareBottom(dead, land, person));
      add(answers, () -> hall.gets(dead, land, person));
      if (person >= 0) {
        add(answers, () -> hall.takes(person, dead, land));
        add(answers, () -> hall.claims(dead, land, person));
        add(answers, () -> hall.tax(dead, land, person));
      }
    }
    for (int number = 0; number < things; number++) {
      int thing = number;
      add(answers, () -> hall.governs(thing, dead));
    }
    for (int number = 0; number <= wills; number++) {
      int index = number;
      add(answers, () -> hall.inForce(dead, index));
    }
  }

  /** What is told in place of something tells what was there, and the next numbers tell how many there are. */
  private void tellMore(Probatehall hall, List<Object> answers) {
    for (int number = 0; number < Math.max(people, things); number++) {
      int each = number;
      add(answers, () -> hall.revoke(each));
      add(answers, () -> hall.give(each, 1, 99998));
      add(answers, () -> hall.part(each, 99998));
      add(answers, () -> hall.taxes(each, 1, 1));
      add(answers, () -> hall.die(each, 99998));
      for (int dead : DEAD) {
        add(answers, () -> hall.setUnworthy(each, dead, true));
        add(answers, () -> hall.renounce(each, dead));
      }
    }
    add(answers, () -> hall.land('s', 0, 0, false, false, false));
    add(answers, () -> hall.person(0, -1, -1));
    add(answers, () -> hall.marry(0, 1, 0));
    add(answers, () -> hall.live(0, 0, 99999));
    add(answers, () -> hall.thing(0, 1, false, 0));
    add(answers, () -> hall.debt(0, 0, 1));
    add(answers, () -> hall.will(0, 0, false));
    add(answers, () -> hall.clause(0, 'm', 1, 0, -1));
  }
}
