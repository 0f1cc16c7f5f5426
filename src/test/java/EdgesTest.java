/** The sentences of the document's "Terms" that name an edge: what is just within it, and what is just beyond. */
public final class EdgesTest extends Checks {
  private static final char[] SYSTEMS = {'s', 'h', 'f', 'e'};

  public static void main(String[] args) throws Exception {
    runTests(EdgesTest.class, 125, "people", "lands", "takers", "shares", "laws", "wills", "paying", "forced", "taxes",
        "figures", "found", "empty", "full");
  }

  /** A land 0 where all live ahead of all, and lands of the same kind that follow it. */
  private static Probatehall lands(int lands, int people) {
    Probatehall hall = hall('s', people);
    for (int count = 1; count < lands; count++) {
      hall.land('s', 0, 0, false, false, false);
    }
    return hall;
  }

  // ---- people

  /** "Somebody is married to another one from the day of a marriage on". */
  static void peopleAreMarriedFromTheDayOn() {
    Probatehall hall = hall('s', 3);
    hall.marry(0, 1, 10);
    hall.die(0, 9);
    due(-1, () -> hall.spouse(0, 0));
    hall.die(0, 10);
    due(1, () -> hall.spouse(0, 0));
    hall.die(0, 99999);
    due(1, () -> hall.spouse(0, 0));
    due(1, () -> hall.marry(2, 0, 99999));
    due(2, () -> hall.spouse(0, 0));
  }

  /** "married to another one": whoever of the two is named first. */
  static void peopleAreMarriedToEachOther() {
    Probatehall hall = hall('s', 4);
    hall.marry(0, 1, 10);
    hall.marry(2, 3, 0);
    hall.die(1, 10);
    due(0, () -> hall.spouse(1, 0));
    hall.die(2, 0);
    due(3, () -> hall.spouse(2, 0));
  }

  /** "and from the day of its parting on not any more". */
  static void peopleArePartedFromTheDayOn() {
    Probatehall hall = hall('s', 2);
    hall.marry(0, 1, 10);
    hall.part(0, 20);
    hall.die(0, 19);
    due(1, () -> hall.spouse(0, 0));
    hall.die(0, 20);
    due(-1, () -> hall.spouse(0, 0));
    hall.die(0, 21);
    due(-1, () -> hall.spouse(0, 0));
  }

  static void peopleWhoPartOnTheDayOfMarriageAreNotMarried() {
    Probatehall hall = hall('s', 2);
    hall.marry(0, 1, 10);
    hall.part(0, 10);
    hall.die(0, 10);
    due(-1, () -> hall.spouse(0, 0));
    due(10, () -> hall.part(0, 11));
    due(1, () -> hall.spouse(0, 0));
  }

  static void peopleMayMarryAgainOnTheDayOfParting() {
    Probatehall hall = hall('s', 2);
    hall.marry(0, 1, 10);
    hall.part(0, 20);
    hall.marry(1, 0, 20);
    hall.die(0, 20);
    due(1, () -> hall.spouse(0, 0));
    hall.part(1, 20);
    due(-1, () -> hall.spouse(0, 0));
  }

  /** "Who lives in a land from a day on does so up to the day of the next one that is told for this person". */
  static void peopleLiveUpToTheDayOfTheNextOne() {
    Probatehall hall = lands(3, 2);
    due(0, () -> hall.live(0, 2, 20));
    due(0, () -> hall.live(0, 1, 10));
    due(0, () -> hall.live(1, 2, 11));
    due(0, () -> hall.livedIn(0, 9));
    due(1, () -> hall.livedIn(0, 10));
    due(1, () -> hall.livedIn(0, 19));
    due(2, () -> hall.livedIn(0, 20));
    due(2, () -> hall.livedIn(0, 99999));
    due(0, () -> hall.livedIn(1, 10));
    due(2, () -> hall.livedIn(1, 11));
  }

  /** "of one day, what was told last counts". */
  static void peopleLiveWhereWasToldLastOfADay() {
    Probatehall hall = lands(3, 1);
    due(0, () -> hall.live(0, 2, 10));
    due(2, () -> hall.live(0, 1, 10));
    due(1, () -> hall.livedIn(0, 10));
    due(1, () -> hall.live(0, 0, 10));
    due(0, () -> hall.livedIn(0, 10));
    due(0, () -> hall.live(0, 2, 10));
    due(2, () -> hall.livedIn(0, 11));
  }

  /** "ahead of all, the land 0". */
  static void peopleLiveInTheLand0AheadOfAll() {
    Probatehall hall = lands(2, 1);
    due(0, () -> hall.livedIn(0, 99999));
    hall.live(0, 1, 0);
    due(0, () -> hall.livedIn(0, -1));
    due(0, () -> hall.livedIn(0, MIN));
    due(1, () -> hall.livedIn(0, 0));
    due(1, () -> hall.livedIn(0, MAX));
  }

  /** A parent is told ahead of a child, but may be born behind it. */
  static void peopleMayBeOlderThanTheirParents() {
    Probatehall hall = hall('s', 0);
    hall.person(50, -1, -1);
    due(1, () -> hall.person(20, 0, -1));
    hall.die(0, 60);
    dueShare(hall, 0, 0, 1, 1, 1);
  }

  /** "numbered from 0": the first one is a child, a spouse, a parent and a sibling like any other. */
  static void peopleNumbered0Take() {
    for (char system : SYSTEMS) {
      Probatehall hall = hall(system, 2);
      hall.marry(1, 0, 10);
      hall.die(1, 50);
      due(0, () -> hall.spouse(1, 0));
      dueShare(hall, 1, 0, 0, 1, 1);
      hall.person(10, 1, -1);
      dueShare(hall, 1, 0, 0, system == 'e' ? 0 : system == 's' ? 1 : system == 'h' ? 1 : 3,
          system == 'e' ? 1 : system == 's' ? 3 : system == 'h' ? 2 : 7);
      due(true, hall::isConsistent);
    }
  }

  static void peopleNumbered0AreParents() {
    int[] tops = {1, 1, 1, 0};
    int[] bottoms = {1, 1, 1, 1};
    for (int number = 0; number < SYSTEMS.length; number++) {
      for (int second = 0; second < 2; second++) {
        Probatehall hall = hall(SYSTEMS[number], 1);
        hall.person(10, second == 0 ? 0 : -1, second == 0 ? -1 : 0);
        hall.die(1, 50);
        dueShare(hall, 1, 0, 0, tops[number], bottoms[number]);
        hall.person(0, -1, -1);
        hall.marry(1, 2, 50);
        dueShare(hall, 1, 0, 0, number == 2 ? 2 : tops[number], number == 2 ? 5 : number == 3 ? 1 : 2);
      }
    }
  }

  static void peopleNumbered0AreSpousesBesideParents() {
    Probatehall hall = hall('s', 2);
    hall.person(10, 1, -1);
    hall.marry(2, 0, 10);
    hall.die(2, 50);
    dueShare(hall, 2, 0, 0, 1, 2);
    dueShare(hall, 2, 0, 1, 1, 2);
    hall.die(1, 50);
    dueShare(hall, 2, 0, 0, 1, 1);
  }

  /** Those who are neither kin nor spouse have nothing, told ahead of the dead one or behind. */
  static void peopleWhoAreStrangersHaveNothing() {
    for (char system : SYSTEMS) {
      Probatehall hall = hall(system, 3);
      hall.person(10, 1, 2);
      hall.person(10, -1, -1);
      hall.person(20, 4, -1);
      hall.die(3, 50);
      dueShare(hall, 3, 0, 0, 0, 1);
      dueShare(hall, 3, 0, 4, 0, 1);
      dueShare(hall, 3, 0, 5, 0, 1);
      dueShare(hall, 3, 0, 1, system == 'e' ? 0 : 1, system == 'e' ? 1 : 2);
      hall.die(1, 50);
      dueShare(hall, 3, 0, 2, system == 'e' ? 0 : 1, 1);
      dueShare(hall, 3, 0, 1, 0, 1);
      hall.die(2, 50);
      dueShare(hall, 3, 0, -1, 1, 1);
      due(true, hall::isConsistent);
    }
  }

  /** "a day from 0": all that can be told of the day 0 holds on it. */
  static void peopleOnTheDay0() {
    Probatehall hall = new Probatehall();
    hall.land('s', 0, 0, true, false, false);
    hall.land('s', 0, 0, true, false, false);
    hall.person(0, -1, -1);
    hall.person(0, -1, -1);
    hall.thing(0, 5, false, 0);
    hall.thing(0, 6, false, 0);
    hall.thing(1, 7, false, 0);
    hall.give(0, 1, 0);
    hall.give(1, 1, 1);
    hall.give(2, 0, 0);
    hall.marry(0, 1, 0);
    hall.will(0, 0, false);
    hall.live(0, 1, 0);
    hall.die(0, 0);
    due(1, () -> hall.spouse(0, 0));
    dueWills(hall, 0, 0);
    due(1, () -> hall.livedIn(0, 0));
    due(-1, () -> hall.governs(0, 0));
    due(1, () -> hall.governs(1, 0));
    due(-1, () -> hall.governs(2, 0));
    hall.die(1, 50);
    due(0, () -> hall.governs(0, 1));
    due(-1, () -> hall.governs(1, 1));
    due(-1, () -> hall.governs(2, 1));
    hall.part(0, 0);
    due(-1, () -> hall.spouse(0, 0));
    due(0, () -> hall.die(0, 1));
    due(0, () -> hall.part(0, 1));
    due(1, () -> hall.livedIn(0, 1));
    due(1, () -> hall.governs(2, 0));
  }

  // ---- lands

  /** "taxes are 0 at first". */
  static void landsHaveNoTaxesAtFirst() {
    Probatehall hall = hall('s', 1);
    hall.person(20, 0, -1);
    hall.thing(0, 99999, false, 0);
    hall.die(0, 50);
    due(99999, () -> hall.gets(0, 0, 1));
    due(0, () -> hall.tax(0, 0, 1));
    due(0, () -> hall.taxes(0, 0, 1));
    due(1, () -> hall.taxes(0, 1, 0));
    due(100, () -> hall.taxes(0, 0, 0));
    due(1, () -> hall.land('s', 0, 0, false, false, false));
    due(0, () -> hall.taxes(1, 99, 99));
    due(9999, () -> hall.taxes(1, 0, 0));
  }

  // ---- who takes

  /** "if born at most 300 days behind the death". */
  static void takersAreBornAtMost300DaysBehindTheDeath() {
    Probatehall hall = hall('s', 1);
    hall.person(400, -1, -1);
    hall.person(99999, -1, -1);
    hall.die(0, 99);
    due(false, () -> hall.takes(1, 0, 0));
    hall.die(0, 100);
    due(true, () -> hall.takes(1, 0, 0));
    hall.die(0, 99698);
    due(false, () -> hall.takes(2, 0, 0));
    hall.die(0, 99699);
    due(true, () -> hall.takes(2, 0, 0));
    hall.die(0, 99999);
    due(true, () -> hall.takes(2, 0, 0));
  }

  /** "not dead or dead later than as many days of survival behind it". */
  static void takersAreDeadLaterThanTheDaysOfSurvival() {
    Probatehall hall = hall('s', 2);
    hall.land('s', 0, 1, false, false, false);
    hall.land('s', 0, 999, false, false, false);
    hall.die(0, 100);
    int[][] lastDays = {{0, 100}, {1, 101}, {2, 1099}};
    for (int[] last : lastDays) {
      hall.die(1, last[1]);
      due(false, () -> hall.takes(1, 0, last[0]));
      hall.die(1, last[1] + 1);
      due(true, () -> hall.takes(1, 0, last[0]));
    }
    hall.die(1, 99);
    due(false, () -> hall.takes(1, 0, 0));
    hall.die(1, 0);
    due(false, () -> hall.takes(1, 0, 0));
  }

  static void takersWhoAreNotDeadNeedNoSurvival() {
    Probatehall hall = hall('s', 2);
    hall.land('s', 0, 999, false, false, false);
    hall.die(0, 99999);
    due(true, () -> hall.takes(1, 0, 0));
    due(true, () -> hall.takes(1, 0, 1));
    hall.die(1, 99999);
    due(false, () -> hall.takes(1, 0, 0));
    due(false, () -> hall.takes(1, 0, 1));
  }

  static void takersAreNotTheDeadThemselves() {
    Probatehall hall = hall('s', 1);
    hall.land('s', 0, 999, false, false, false);
    hall.die(0, 50);
    due(false, () -> hall.takes(0, 0, 0));
    due(false, () -> hall.takes(0, 0, 1));
  }

  /** Two who die within days do not take from each other, and on one day even without days of survival. */
  static void takersOfEachOtherWithinDays() {
    Probatehall hall = hall('s', 2);
    hall.land('s', 0, 5, false, false, false);
    hall.die(0, 100);
    hall.die(1, 105);
    due(true, () -> hall.takes(1, 0, 0));
    due(false, () -> hall.takes(1, 0, 1));
    due(false, () -> hall.takes(0, 1, 0));
    hall.die(0, 105);
    due(false, () -> hall.takes(1, 0, 0));
    due(false, () -> hall.takes(0, 1, 0));
  }

  /** "not unworthy of this one". */
  static void takersAreNotUnworthyOfThisOne() {
    Probatehall hall = hall('s', 3);
    hall.die(0, 5);
    hall.die(1, 5);
    hall.setUnworthy(2, 0, true);
    hall.setUnworthy(0, 2, true);
    due(false, () -> hall.takes(2, 0, 0));
    due(true, () -> hall.takes(2, 1, 0));
    hall.setUnworthy(1, 2, true);
    due(true, () -> hall.takes(2, 1, 0));
    due(true, () -> hall.setUnworthy(2, 0, false));
    due(true, () -> hall.takes(2, 0, 0));
  }

  /** "and without having renounced": of the one from whom was renounced, even if the day of death is told anew. */
  static void takersHaveNotRenounced() {
    Probatehall hall = hall('s', 3);
    hall.die(0, 5);
    hall.die(1, 5);
    hall.renounce(2, 0);
    due(false, () -> hall.takes(2, 0, 0));
    due(true, () -> hall.takes(2, 1, 0));
    hall.setUnworthy(2, 0, true);
    hall.setUnworthy(2, 0, false);
    hall.die(0, 6);
    due(false, () -> hall.takes(2, 0, 0));
    due(false, () -> hall.renounce(2, 0));
  }

  /** "A line of somebody is there, if this one takes, or a line of some child is there": as long as people go. */
  static void takersMakeALineHoweverFarBelow() {
    for (char system : new char[] {'s', 'h', 'e'}) {
      Probatehall hall = hall(system, 0);
      for (int number = 0; number < 16; number++) {
        hall.person(number, number - 1, -1);
      }
      for (int number = 0; number < 15; number++) {
        hall.die(number, 20);
      }
      dueShare(hall, 0, 0, 15, 1, 1);
      dueShare(hall, 0, 0, -1, 0, 1);
      hall.renounce(15, 0);
      dueShare(hall, 0, 0, 15, 0, 1);
      dueShare(hall, 0, 0, -1, 1, 1);
      due(true, hall::isConsistent);
    }
  }

  /** "of several the one of the latest marriage, of one day that with the highest number". */
  static void takersAreTheSpouseOfTheLatestMarriage() {
    Probatehall hall = hall('s', 4);
    hall.die(0, 50);
    hall.marry(0, 1, 31);
    hall.marry(0, 2, 30);
    due(1, () -> hall.spouse(0, 0));
    hall.marry(3, 0, 31);
    due(3, () -> hall.spouse(0, 0));
    hall.marry(1, 0, 31);
    due(1, () -> hall.spouse(0, 0));
    hall.marry(2, 0, 51);
    due(1, () -> hall.spouse(0, 0));
    hall.die(0, 51);
    due(2, () -> hall.spouse(0, 0));
  }

  /** A marriage of others is none of the dead one. */
  static void takersAreNotTheSpousesOfOthers() {
    Probatehall hall = hall('s', 3);
    hall.die(0, 50);
    hall.marry(1, 2, 40);
    due(-1, () -> hall.spouse(0, 0));
    hall.marry(1, 0, 30);
    due(1, () -> hall.spouse(0, 0));
  }

  /** "there is no spouse if this one does not take": the one of an earlier marriage does not step in. */
  static void takersAloneAreSpouses() {
    Probatehall hall = hall('s', 3);
    hall.land('s', 0, 2, false, false, false);
    hall.marry(0, 1, 10);
    hall.marry(0, 2, 20);
    hall.die(0, 50);
    hall.die(2, 52);
    due(2, () -> hall.spouse(0, 0));
    due(-1, () -> hall.spouse(0, 1));
    dueShare(hall, 0, 1, 1, 0, 1);
    dueShare(hall, 0, 1, -1, 1, 1);
    hall.renounce(2, 0);
    due(-1, () -> hall.spouse(0, 0));
  }

  // ---- shares without a will

  /** "What goes to nobody goes to the land." */
  static void sharesOfNobodyGoToTheLand() {
    for (char system : SYSTEMS) {
      Probatehall hall = hall(system, 3);
      hall.thing(0, 7, false, 0);
      hall.die(0, 5);
      dueShare(hall, 0, 0, 0, 0, 1);
      dueShare(hall, 0, 0, 1, 0, 1);
      dueShare(hall, 0, 0, -1, 1, 1);
      dueGets(hall, 0, 0, 0, 0, 0, 7);
    }
  }

  static void sharesOfASpouseAloneAreAll() {
    for (char system : SYSTEMS) {
      Probatehall hall = hall(system, 2);
      hall.marry(0, 1, 5);
      hall.die(0, 5);
      dueShare(hall, 0, 0, 1, 1, 1);
      dueShare(hall, 0, 0, -1, 0, 1);
    }
  }

  static void sharesOfAChildAloneAreAll() {
    for (char system : SYSTEMS) {
      Probatehall hall = hall(system, 1);
      hall.person(305, 0, -1);
      hall.die(0, 5);
      dueShare(hall, 0, 0, 1, 1, 1);
      hall.die(0, 4);
      dueShare(hall, 0, 0, 1, 0, 1);
      dueShare(hall, 0, 0, -1, 1, 1);
    }
  }

  /** "All shares under each law are one together in exact fractions": added up from the answers, each by itself. */
  static void sharesAreOneTogether() {
    for (Told told : Told.values()) {
      for (int number = 0; number < 2 * told.lands; number++) {
        int dead = number % 2 == 0 ? 0 : 2;
        int land = number / 2;
        Probatehall hall = told.hall();
        HallModel.Fraction sum = HallModel.Fraction.ZERO;
        for (int person = -1; person < told.people; person++) {
          long top = hall.shareTop(dead, land, person);
          long bottom = hall.shareBottom(dead, land, person);
          HallModel.Fraction lowest = HallModel.Fraction.of(top, bottom);
          // "in lowest terms", and "0 for no share" over "1 for no share".
          due(top + " " + bottom, () -> lowest.top() + " " + lowest.bottom());
          sum = sum.plus(lowest);
        }
        HallModel.Fraction all = sum;
        due(HallModel.Fraction.ONE, () -> all);
      }
    }
  }

  /** 0 and 1 are parents of 2, and of 3 and 4 as well; 5 is a child of 1 alone, 6 of 3. */
  private static Probatehall siblings(char system) {
    Probatehall hall = hall(system, 2);
    hall.person(10, 0, 1);
    hall.person(10, 0, 1);
    hall.person(10, 1, 0);
    hall.person(10, 1, -1);
    hall.person(20, 3, -1);
    hall.die(2, 50);
    return hall;
  }

  /** "a part goes down to the children of somebody in equal parts, one for each child whose line is there". */
  static void sharesByStocksOneForEachLine() {
    Probatehall hall = hall('s', 1);
    for (int count = 1; count <= 4; count++) {
      hall.person(10, 0, -1);
    }
    hall.person(20, 1, -1);
    hall.person(20, 1, -1);
    hall.person(20, 2, -1);
    hall.die(0, 50);
    dueShare(hall, 0, 0, 4, 1, 4);
    dueShare(hall, 0, 0, 5, 0, 1);
    hall.die(1, 50);
    dueShare(hall, 0, 0, 1, 0, 1);
    dueShare(hall, 0, 0, 5, 1, 8);
    dueShare(hall, 0, 0, 6, 1, 8);
    hall.die(2, 50);
    dueShare(hall, 0, 0, 7, 1, 4);
    // Without a line, 3 counts no more.
    hall.die(3, 50);
    dueShare(hall, 0, 0, 4, 1, 3);
    dueShare(hall, 0, 0, 6, 1, 6);
    dueShare(hall, 0, 0, 7, 1, 3);
    dueShare(hall, 0, 0, -1, 0, 1);
  }

  /** "The spouse has 1/3, if there is a line of a child of the dead one, and the rest goes down from the dead one". */
  static void sharesByStocksSpouseBesideChildren() {
    Probatehall hall = siblings('s');
    hall.person(30, 2, -1);
    hall.person(40, 7, -1);
    hall.marry(2, 6, 20);
    dueShare(hall, 2, 0, 6, 1, 3);
    dueShare(hall, 2, 0, 7, 2, 3);
    hall.die(7, 50);
    dueShare(hall, 2, 0, 6, 1, 3);
    dueShare(hall, 2, 0, 8, 2, 3);
    dueShare(hall, 2, 0, 0, 0, 1);
    hall.part(0, 50);
    dueShare(hall, 2, 0, 8, 1, 1);
  }

  /** "otherwise, if there is a line of a parent, .. the spouse has 1/2, and the rest goes in equal parts to those". */
  static void sharesByStocksSpouseBesideParents() {
    Probatehall hall = siblings('s');
    hall.person(0, -1, -1);
    dueShare(hall, 2, 0, 0, 1, 2);
    dueShare(hall, 2, 0, 1, 1, 2);
    hall.marry(2, 7, 20);
    dueShare(hall, 2, 0, 7, 1, 2);
    dueShare(hall, 2, 0, 0, 1, 4);
    dueShare(hall, 2, 0, 1, 1, 4);
    dueShare(hall, 2, 0, 3, 0, 1);
    // 0 goes down to 3 and 4, 1 to 3, 4 and 5.
    hall.die(0, 50);
    dueShare(hall, 2, 0, 3, 1, 8);
    dueShare(hall, 2, 0, 1, 1, 4);
    hall.die(1, 50);
    dueShare(hall, 2, 0, 3, 5, 24);
    dueShare(hall, 2, 0, 4, 5, 24);
    dueShare(hall, 2, 0, 5, 1, 12);
    hall.die(3, 50);
    dueShare(hall, 2, 0, 6, 5, 24);
    dueShare(hall, 2, 0, 7, 1, 2);
    due(true, hall::isConsistent);
  }

  /** "where the dead one's own line is left aside": a parent whose only child is the dead one has no line. */
  static void sharesByStocksTheDeadOnesLineIsLeftAside() {
    Probatehall hall = hall('s', 2);
    hall.person(10, 0, 1);
    hall.person(20, -1, -1);
    hall.marry(2, 3, 30);
    hall.die(2, 50);
    hall.die(0, 50);
    dueShare(hall, 2, 0, 1, 1, 2);
    dueShare(hall, 2, 0, 3, 1, 2);
    hall.die(1, 50);
    // "otherwise the spouse has all."
    dueShare(hall, 2, 0, 3, 1, 1);
    hall.setUnworthy(3, 2, true);
    // "Without a spouse, the rest is all", and nobody is left.
    dueShare(hall, 2, 0, -1, 1, 1);
  }

  static void sharesByStocksWithoutASpouseTheRestIsAll() {
    Probatehall hall = siblings('s');
    hall.die(0, 50);
    hall.die(3, 50);
    hall.die(6, 50);
    dueShare(hall, 2, 0, 1, 1, 2);
    dueShare(hall, 2, 0, 4, 1, 2);
    hall.die(4, 50);
    dueShare(hall, 2, 0, 1, 1, 1);
    hall.die(1, 50);
    dueShare(hall, 2, 0, 5, 1, 1);
  }

  /** A child of the dead one and of the dead one's child stands in two lines. */
  static void sharesByStocksOfTwoLines() {
    Probatehall hall = hall('s', 1);
    hall.person(10, 0, -1);
    hall.person(20, 0, 1);
    hall.person(10, 0, -1);
    hall.die(0, 50);
    dueShare(hall, 0, 0, 2, 1, 3);
    hall.die(1, 50);
    dueShare(hall, 0, 0, 2, 2, 3);
    dueShare(hall, 0, 0, 3, 1, 3);
  }

  static void sharesByStocksOfASpouseWhoIsAChild() {
    Probatehall hall = hall('s', 1);
    hall.person(10, 0, -1);
    hall.person(10, 0, -1);
    hall.marry(0, 1, 20);
    hall.die(0, 50);
    dueShare(hall, 0, 0, 1, 2, 3);
    dueShare(hall, 0, 0, 2, 1, 3);
  }

  /** A spouse who is the only one below the dead one has all, whatever the parts are. */
  static void sharesOfASpouseWhoIsTheOnlyChild() {
    for (char system : SYSTEMS) {
      Probatehall hall = hall(system, 1);
      hall.person(10, 0, -1);
      hall.marry(0, 1, 20);
      hall.die(0, 50);
      due(1, () -> hall.spouse(0, 0));
      dueShare(hall, 0, 0, 1, 1, 1);
      hall.person(11, 0, -1);
      // By stocks 1/3 and half of 2/3; 1/4 and 1/3 of 11/12; the eldest child has all as a child.
      dueShare(hall, 0, 0, 1, system == 's' ? 2 : system == 'f' ? 7 : 1, system == 's' ? 3 : system == 'f' ? 11
          : system == 'h' ? 2 : 1);
      due(true, hall::isConsistent);
    }
  }

  /** "the spouse, and all who take of the nearest descendants by generations of whom some take". */
  static void sharesByHeadsOfTheNearestGeneration() {
    Probatehall hall = siblings('h');
    hall.person(20, 2, -1);
    hall.person(20, 2, -1);
    hall.person(30, 7, -1);
    hall.person(30, 8, -1);
    hall.person(30, 7, 8);
    hall.person(40, 11, -1);
    hall.marry(2, 0, 30);
    dueShare(hall, 2, 0, 7, 1, 3);
    dueShare(hall, 2, 0, 0, 1, 3);
    hall.die(7, 50);
    dueShare(hall, 2, 0, 8, 1, 2);
    dueShare(hall, 2, 0, 9, 0, 1);
    hall.die(8, 50);
    dueShare(hall, 2, 0, 9, 1, 4);
    dueShare(hall, 2, 0, 11, 1, 4);
    hall.die(9, 50);
    hall.die(10, 50);
    dueShare(hall, 2, 0, 11, 1, 2);
    hall.die(11, 50);
    dueShare(hall, 2, 0, 12, 1, 2);
    dueShare(hall, 2, 0, 0, 1, 2);
    dueShare(hall, 2, 0, 1, 0, 1);
  }

  /** "or, without such, of the parents, or, without such, of other children of the parents". */
  static void sharesByHeadsOfParentsThenOfTheirChildren() {
    Probatehall hall = siblings('h');
    hall.person(0, -1, -1);
    hall.marry(7, 2, 50);
    dueShare(hall, 2, 0, 0, 1, 3);
    dueShare(hall, 2, 0, 3, 0, 1);
    hall.die(0, 50);
    dueShare(hall, 2, 0, 1, 1, 2);
    dueShare(hall, 2, 0, 7, 1, 2);
    hall.die(1, 50);
    dueShare(hall, 2, 0, 3, 1, 4);
    dueShare(hall, 2, 0, 5, 1, 4);
    dueShare(hall, 2, 0, 2, 0, 1);
    hall.die(3, 50);
    dueShare(hall, 2, 0, 6, 0, 1);
    dueShare(hall, 2, 0, 4, 1, 3);
    hall.die(4, 50);
    hall.die(5, 50);
    dueShare(hall, 2, 0, 7, 1, 1);
    hall.die(7, 50);
    dueShare(hall, 2, 0, -1, 1, 1);
  }

  /** "each of them counts once": a spouse who is a child too, and one who comes down on two ways. */
  static void sharesByHeadsCountOnce() {
    Probatehall hall = hall('h', 1);
    hall.person(10, 0, -1);
    hall.person(10, 0, -1);
    hall.person(20, 1, 2);
    hall.person(20, 1, -1);
    hall.marry(0, 1, 30);
    hall.die(0, 50);
    dueShare(hall, 0, 0, 1, 1, 2);
    hall.die(1, 50);
    hall.die(2, 50);
    dueShare(hall, 0, 0, 3, 1, 2);
    dueShare(hall, 0, 0, 4, 1, 2);
  }

  /** "the spouse has 1/4, each parent who takes 1/6, each child who takes 1/3; then all are divided by their sum". */
  static void sharesByFractionsShrinkAndGrow() {
    Probatehall hall = siblings('f');
    hall.person(0, -1, -1);
    // 1/6 and 1/6 grow.
    dueShare(hall, 2, 0, 0, 1, 2);
    hall.marry(7, 2, 50);
    dueShare(hall, 2, 0, 0, 2, 7);
    dueShare(hall, 2, 0, 7, 3, 7);
    hall.person(20, 2, -1);
    // 1/4, 1/6, 1/6 and 1/3 are 11/12.
    dueShare(hall, 2, 0, 7, 3, 11);
    dueShare(hall, 2, 0, 8, 4, 11);
    hall.person(20, 2, -1);
    // With one more, 15/12, they shrink.
    dueShare(hall, 2, 0, 7, 1, 5);
    dueShare(hall, 2, 0, 0, 2, 15);
    dueShare(hall, 2, 0, 9, 4, 15);
    hall.die(7, 50);
    hall.die(0, 50);
    hall.die(9, 50);
    dueShare(hall, 2, 0, 1, 1, 3);
    dueShare(hall, 2, 0, 8, 2, 3);
    due(true, hall::isConsistent);
  }

  /** Neither the line of a child nor that of a parent has anything by fractions. */
  static void sharesByFractionsGoNotDown() {
    Probatehall hall = siblings('f');
    hall.person(20, 2, -1);
    hall.person(30, 7, -1);
    hall.die(7, 50);
    hall.die(0, 50);
    dueShare(hall, 2, 0, 8, 0, 1);
    dueShare(hall, 2, 0, 1, 1, 1);
    hall.die(1, 50);
    dueShare(hall, 2, 0, 3, 0, 1);
    dueShare(hall, 2, 0, -1, 1, 1);
  }

  static void sharesByFractionsOfASpouseWhoIsAParent() {
    Probatehall hall = siblings('f');
    hall.marry(2, 1, 40);
    dueShare(hall, 2, 0, 1, 5, 7);
    dueShare(hall, 2, 0, 0, 2, 7);
  }

  /** "of the children of the dead one, by their days of birth, then by numbers, the first one whose line is there". */
  static void sharesByTheEldestByBirthThenByNumber() {
    Probatehall hall = hall('e', 1);
    hall.person(11, 0, -1);
    hall.person(10, 0, -1);
    hall.person(10, 0, -1);
    hall.person(9, -1, -1);
    hall.die(0, 50);
    dueShare(hall, 0, 0, 2, 1, 1);
    hall.die(2, 50);
    dueShare(hall, 0, 0, 3, 1, 1);
    hall.die(3, 50);
    dueShare(hall, 0, 0, 1, 1, 1);
    hall.die(1, 50);
    dueShare(hall, 0, 0, -1, 1, 1);
  }

  /** "that one has all, if it takes, otherwise it goes on from there likewise". */
  static void sharesByTheEldestGoOnFromThere() {
    Probatehall hall = hall('e', 1);
    hall.person(10, 0, -1);
    hall.person(12, 0, -1);
    hall.person(31, 1, -1);
    hall.person(30, 1, -1);
    hall.person(30, 1, -1);
    hall.person(29, 2, -1);
    hall.marry(0, 6, 40);
    hall.die(0, 50);
    dueShare(hall, 0, 0, 1, 1, 1);
    hall.die(1, 50);
    dueShare(hall, 0, 0, 4, 1, 1);
    hall.die(4, 50);
    dueShare(hall, 0, 0, 5, 1, 1);
    hall.die(5, 50);
    dueShare(hall, 0, 0, 3, 1, 1);
    hall.die(3, 50);
    dueShare(hall, 0, 0, 2, 1, 1);
    dueShare(hall, 0, 0, 6, 0, 1);
  }

  /** "without such, the spouse has all": neither parents nor their other children have any. */
  static void sharesByTheEldestThenOfTheSpouse() {
    Probatehall hall = siblings('e');
    hall.person(0, -1, -1);
    dueShare(hall, 2, 0, -1, 1, 1);
    hall.marry(7, 2, 40);
    dueShare(hall, 2, 0, 7, 1, 1);
    hall.person(20, 2, -1);
    dueShare(hall, 2, 0, 7, 0, 1);
    dueShare(hall, 2, 0, 8, 1, 1);
  }

  // ---- laws

  private static Probatehall sending(boolean homeSends, boolean otherSends, boolean land) {
    Probatehall hall = new Probatehall();
    hall.land('s', 0, 0, false, land && homeSends, !land && homeSends);
    hall.land('s', 0, 0, false, land && otherSends, !land && otherSends);
    hall.person(0, -1, -1);
    hall.thing(0, 5, land, 1);
    hall.thing(0, 7, land, 0);
    hall.die(0, 50);
    return hall;
  }

  private static void dueLaws(Probatehall hall, int ofFirst, int ofSecond) {
    due(ofFirst, () -> hall.governs(0, 0));
    due(ofSecond, () -> hall.governs(1, 0));
    due((ofFirst == 0 ? 5 : 0) + (ofSecond == 0 ? 7 : 0), () -> hall.pool(0, 0));
    due((ofFirst == 1 ? 5 : 0) + (ofSecond == 1 ? 7 : 0), () -> hall.pool(0, 1));
  }

  /** "but if that land sends movables on, by that of the land where it lies". */
  static void lawsOfMovables() {
    dueLaws(sending(false, false, false), 0, 0);
    dueLaws(sending(true, false, false), 1, 0);
    dueLaws(sending(false, true, false), 0, 0);
  }

  /** "but if that land sends land on, by that of the land where the dead one lived". */
  static void lawsOfLand() {
    dueLaws(sending(false, false, true), 1, 0);
    dueLaws(sending(false, true, true), 0, 0);
    dueLaws(sending(true, false, true), 1, 0);
  }

  /** "It is sent once": both lands would send it on. */
  static void lawsSendOnce() {
    dueLaws(sending(true, true, false), 1, 0);
    dueLaws(sending(true, true, true), 0, 0);
  }

  /** A land that sends land on does not send movables on, and the other way round. */
  static void lawsSendOneKind() {
    Probatehall hall = new Probatehall();
    hall.land('s', 0, 0, false, true, false);
    hall.land('s', 0, 0, false, false, true);
    hall.person(0, -1, -1);
    hall.thing(0, 5, false, 1);
    hall.thing(0, 7, true, 1);
    hall.die(0, 50);
    dueLaws(hall, 0, 1);
    hall.live(0, 1, 50);
    dueLaws(hall, 1, 1);
  }

  /** "the land where the dead one lived at death": from the very day on, not from the next. */
  static void lawsOfTheLandLivedInAtDeath() {
    Probatehall hall = lands(2, 1);
    hall.thing(0, 5, false, 1);
    hall.die(0, 50);
    hall.live(0, 1, 51);
    due(0, () -> hall.governs(0, 0));
    hall.die(0, 51);
    due(1, () -> hall.governs(0, 0));
    hall.live(0, 0, 51);
    due(0, () -> hall.governs(0, 0));
  }

  /** "what was given away on the very day of death is nobody's then". */
  static void lawsOfWhatIsGivenOnTheVeryDay() {
    Probatehall hall = hall('s', 2);
    hall.thing(0, 5, false, 0);
    hall.give(0, 1, 50);
    hall.die(0, 50);
    due(-1, () -> hall.governs(0, 0));
    due(0, () -> hall.pool(0, 0));
    hall.die(1, 50);
    due(-1, () -> hall.governs(0, 1));
    due(0, () -> hall.pool(1, 0));
  }

  /** "if that one gave it away, not behind the own death". */
  static void lawsOfWhatIsGivenBehindTheOwnDeath() {
    Probatehall hall = hall('s', 2);
    hall.thing(0, 5, false, 0);
    hall.give(0, 1, 51);
    hall.die(1, 90);
    due(0, () -> hall.governs(0, 1));
    hall.die(0, 50);
    due(0, () -> hall.governs(0, 0));
    due(-1, () -> hall.governs(0, 1));
    hall.die(0, 51);
    due(-1, () -> hall.governs(0, 0));
    due(0, () -> hall.governs(0, 1));
    hall.die(0, 52);
    due(-1, () -> hall.governs(0, 0));
    due(0, () -> hall.governs(0, 1));
  }

  /** "it is the taker's instead from the next day on". */
  static void lawsOfWhatIsTheTakersFromTheNextDayOn() {
    Probatehall hall = hall('s', 2);
    hall.thing(0, 5, false, 0);
    hall.give(0, 1, 50);
    hall.die(1, 49);
    due(-1, () -> hall.governs(0, 1));
    hall.die(1, 50);
    due(-1, () -> hall.governs(0, 1));
    hall.die(1, 51);
    due(0, () -> hall.governs(0, 1));
    due(5, () -> hall.pool(1, 0));
    hall.die(0, 99);
    due(0, () -> hall.governs(0, 1));
    due(-1, () -> hall.governs(0, 0));
  }

  /** "What goes at a death is not looked at any further." */
  static void lawsOfWhatWasInherited() {
    Probatehall hall = hall('s', 1);
    hall.person(20, 0, -1);
    hall.person(40, 1, -1);
    hall.thing(0, 5, false, 0);
    hall.die(0, 50);
    hall.die(1, 60);
    due(5, () -> hall.gets(0, 0, 1));
    due(-1, () -> hall.governs(0, 1));
    due(0, () -> hall.pool(1, 0));
    due(0, () -> hall.gets(1, 0, 2));
  }

  // ---- wills

  /** "Those of the dead one count whose day is not behind the death". */
  static void willsAreNotBehindTheDeath() {
    Probatehall hall = hall('s', 2);
    hall.will(0, 50, false);
    hall.will(0, 51, false);
    hall.will(1, 10, false);
    hall.will(0, 51, true);
    hall.die(0, 49);
    dueWills(hall, 0);
    hall.die(0, 50);
    dueWills(hall, 0, 0);
    hall.die(0, 51);
    dueWills(hall, 0, 3);
    hall.revoke(3);
    dueWills(hall, 0, 0, 1);
  }

  /** "which were not revoked": a whole one that was revoked puts nothing out of force. */
  static void willsAreNotRevoked() {
    Probatehall hall = hall('s', 1);
    hall.will(0, 10, false);
    hall.will(0, 20, true);
    hall.will(0, 30, false);
    hall.die(0, 50);
    dueWills(hall, 0, 1, 2);
    hall.revoke(1);
    dueWills(hall, 0, 0, 2);
    hall.revoke(2);
    dueWills(hall, 0, 0);
    hall.revoke(0);
    dueWills(hall, 0);
  }

  /** "whose day is not ahead of that of the dead one's last marriage up to then". */
  static void willsAreNotAheadOfTheLastMarriage() {
    Probatehall hall = new Probatehall();
    hall.land('s', 0, 0, true, false, false);
    hall.person(0, -1, -1);
    hall.person(0, -1, -1);
    hall.person(0, -1, -1);
    hall.will(0, 19, false);
    hall.will(0, 20, false);
    hall.will(0, 21, false);
    hall.die(0, 50);
    dueWills(hall, 0, 0, 1, 2);
    hall.marry(1, 2, 45);
    dueWills(hall, 0, 0, 1, 2);
    hall.marry(0, 1, 20);
    dueWills(hall, 0, 1, 2);
    hall.marry(0, 2, 10);
    dueWills(hall, 0, 1, 2);
    hall.marry(2, 0, 21);
    dueWills(hall, 0, 2);
  }

  /** "up to then": a marriage on the day of death counts, one behind it does not. */
  static void willsAndMarriagesUpToTheDeath() {
    Probatehall hall = new Probatehall();
    hall.land('s', 0, 0, true, false, false);
    hall.person(0, -1, -1);
    hall.person(0, -1, -1);
    hall.will(0, 49, true);
    hall.marry(0, 1, 50);
    hall.die(0, 49);
    dueWills(hall, 0, 0);
    hall.die(0, 50);
    dueWills(hall, 0);
    hall.will(0, 50, true);
    dueWills(hall, 0, 1);
  }

  /** "parted or not". */
  static void willsAndMarriagesThatWereParted() {
    Probatehall hall = new Probatehall();
    hall.land('s', 0, 0, true, false, false);
    hall.person(0, -1, -1);
    hall.person(0, -1, -1);
    hall.will(0, 19, true);
    hall.marry(0, 1, 20);
    hall.part(0, 20);
    hall.die(0, 50);
    dueWills(hall, 0);
  }

  /** "if the land where the dead one lived at death lets marriages revoke". */
  static void willsAndTheLandLivedInAtDeath() {
    Probatehall hall = hall('s', 2);
    hall.land('s', 0, 0, true, false, false);
    hall.will(0, 19, true);
    hall.marry(0, 1, 20);
    hall.die(0, 50);
    dueWills(hall, 0, 0);
    hall.live(0, 1, 50);
    dueWills(hall, 0);
    hall.die(0, 49);
    dueWills(hall, 0, 0);
  }

  /** "the last whole one by days, then by numbers, is in force". */
  static void willsTheLastWholeOne() {
    Probatehall hall = hall('s', 1);
    hall.will(0, 20, true);
    hall.will(0, 10, true);
    hall.die(0, 50);
    dueWills(hall, 0, 0);
    hall.will(0, 20, true);
    dueWills(hall, 0, 2);
    hall.will(0, 19, true);
    dueWills(hall, 0, 2);
    hall.will(0, 21, true);
    dueWills(hall, 0, 4);
  }

  /** "and all additions behind it, by days, then by numbers": of its day, those of higher numbers are behind it. */
  static void willsAdditionsBehindTheWholeOne() {
    Probatehall hall = hall('s', 1);
    hall.will(0, 20, false);
    hall.will(0, 21, false);
    hall.will(0, 20, true);
    hall.will(0, 21, false);
    hall.will(0, 20, false);
    hall.will(0, 19, false);
    hall.die(0, 50);
    dueWills(hall, 0, 2, 4, 1, 3);
  }

  /** Additions ahead of the whole one are not in force, though they were told behind it. */
  static void willsAdditionsAheadOfTheWholeOne() {
    Probatehall hall = hall('s', 1);
    hall.will(0, 20, true);
    hall.will(0, 19, false);
    hall.will(0, 0, false);
    hall.die(0, 50);
    dueWills(hall, 0, 0);
    hall.will(0, 20, false);
    dueWills(hall, 0, 0, 3);
  }

  /** "or all additions without such". */
  static void willsAdditionsWithoutAWholeOne() {
    Probatehall hall = hall('s', 1);
    hall.will(0, 20, false);
    hall.will(0, 0, false);
    hall.will(0, 50, false);
    hall.will(0, 20, false);
    hall.will(0, 51, true);
    hall.die(0, 50);
    dueWills(hall, 0, 1, 0, 3, 2);
  }

  /** "Their clauses are gone through by wills, then as they were told". */
  static void willsClausesByWillsThenAsTheyWereTold() {
    Probatehall hall = hall('s', 5);
    hall.thing(0, 5, false, 0);
    hall.will(0, 30, false);
    hall.will(0, 20, false);
    hall.clause(0, 't', 0, 1, -1);
    hall.clause(0, 't', 0, 2, -1);
    hall.clause(1, 't', 0, 3, -1);
    hall.die(0, 50);
    dueGets(hall, 0, 0, 0, 0, 5, 0, 0, 0);
    hall.clause(1, 't', 0, 4, -1);
    dueGets(hall, 0, 0, 0, 0, 5, 0, 0, 0);
    hall.revoke(0);
    dueGets(hall, 0, 0, 0, 0, 0, 0, 5, 0);
  }

  /** "the one named has it, if taking .., otherwise the one in place of that one, if taking; otherwise it fails". */
  static void willsTheOneNamedOrTheOneInPlace() {
    Probatehall hall = hall('s', 4);
    hall.thing(0, 9, false, 0);
    hall.will(0, 20, true);
    hall.clause(0, 't', 0, 1, -1);
    hall.clause(0, 't', 0, 2, 3);
    hall.die(0, 50);
    dueGets(hall, 0, 0, 0, 0, 9, 0, 0);
    hall.die(2, 51);
    dueGets(hall, 0, 0, 0, 0, 9, 0, 0);
    hall.die(2, 50);
    dueGets(hall, 0, 0, 0, 0, 0, 9, 0);
    hall.renounce(3, 0);
    dueGets(hall, 0, 0, 0, 9, 0, 0, 0);
    hall.setUnworthy(1, 0, true);
    dueGets(hall, 0, 0, 0, 0, 0, 0, 9);
  }

  /** "if taking by the law of the land where the dead one lived", also of what another law governs. */
  static void willsTakingByTheLawOfTheLandLivedIn() {
    Probatehall hall = hall('s', 3);
    hall.land('s', 0, 3, false, false, false);
    hall.thing(0, 9, true, 1);
    hall.thing(0, 8, true, 0);
    hall.will(0, 20, true);
    hall.clause(0, 't', 0, 1, 2);
    hall.clause(0, 't', 1, 1, 2);
    hall.die(0, 50);
    hall.die(1, 53);
    due(9, () -> hall.gets(0, 1, 1));
    due(8, () -> hall.gets(0, 0, 1));
    hall.live(0, 1, 0);
    due(9, () -> hall.gets(0, 1, 2));
    due(8, () -> hall.gets(0, 0, 2));
    hall.die(1, 54);
    due(9, () -> hall.gets(0, 1, 1));
    due(8, () -> hall.gets(0, 0, 1));
  }

  /** "if the dead one owned it". */
  static void willsOfThingsThatTheDeadOneDidNotOwn() {
    Probatehall hall = hall('s', 3);
    hall.thing(0, 9, false, 0);
    hall.thing(1, 5, false, 0);
    hall.will(0, 20, true);
    hall.clause(0, 't', 0, 2, -1);
    hall.clause(0, 't', 1, 2, -1);
    hall.die(0, 50);
    dueGets(hall, 0, 0, 0, 0, 9, 0);
    hall.give(0, 1, 50);
    dueGets(hall, 0, 0, 0, 0, 0, 0);
    hall.give(1, 0, 49);
    dueGets(hall, 0, 0, 0, 0, 5, 0);
    hall.give(1, 0, 50);
    dueGets(hall, 0, 0, 0, 0, 0, 0);
  }

  /** "sums go each by itself": two sums for the same one are both paid. */
  static void willsSumsGoEachByItself() {
    Probatehall hall = hall('s', 3);
    hall.thing(0, 20, false, 0);
    hall.will(0, 20, false);
    hall.will(0, 21, false);
    hall.clause(0, 'm', 5, 1, -1);
    hall.clause(0, 'm', 5, 1, -1);
    hall.clause(1, 'm', 3, 1, -1);
    hall.clause(1, 'm', 3, 0, 2);
    hall.die(0, 50);
    dueGets(hall, 0, 0, 0, 13, 3, 4);
  }

  /** "the rest, in parts, by the clauses on the rest of the last will in force that has such that do not fail". */
  static void willsTheRestByTheLastThatDoesNotFail() {
    Probatehall hall = hall('s', 4);
    hall.thing(0, 100, false, 0);
    hall.will(0, 20, true);
    hall.will(0, 30, false);
    hall.will(0, 40, false);
    hall.clause(0, 'r', 1, 1, -1);
    hall.clause(1, 'r', 3, 2, -1);
    hall.clause(1, 'r', 1, 3, -1);
    hall.clause(2, 'm', 1, 3, -1);
    hall.die(0, 50);
    dueGets(hall, 0, 0, 0, 0, 74, 26, 0);
    hall.clause(2, 'r', 99, 0, -1);
    dueGets(hall, 0, 0, 0, 0, 74, 26, 0);
    // Of its clauses, those that fail are left out, and the others share the whole.
    hall.setUnworthy(2, 0, true);
    dueGets(hall, 0, 0, 0, 0, 0, 100, 0);
    hall.setUnworthy(3, 0, true);
    dueGets(hall, 0, 0, 0, 100, 0, 0, 0);
    hall.setUnworthy(1, 0, true);
    dueGets(hall, 0, 0, 0, 0, 0, 0, 100);
  }

  // ---- paying

  private static Probatehall owing(int value, int... amounts) {
    Probatehall hall = hall('s', 1);
    if (value > 0) {
      hall.thing(0, value, false, 0);
    }
    for (int amount : amounts) {
      hall.debt(0, 1, amount);
    }
    hall.die(0, 50);
    return hall;
  }

  private static void duePaid(Probatehall hall, int... amounts) {
    for (int number = 0; number < amounts.length; number++) {
      int debt = number;
      due(amounts[debt], () -> hall.paidOf(debt));
    }
  }

  /** "Debts of the dead one are paid by ranks, the lesser ones first, as far as the pools go". */
  static void payingByRanks() {
    Probatehall hall = hall('s', 1);
    for (int rank = 3; rank >= 0; rank--) {
      hall.debt(0, rank, 10);
    }
    hall.die(0, 50);
    duePaid(hall, 0, 0, 0, 0);
    hall.thing(0, 9, false, 0);
    duePaid(hall, 0, 0, 0, 9);
    hall.thing(0, 1, false, 0);
    duePaid(hall, 0, 0, 0, 10);
    hall.thing(0, 1, false, 0);
    duePaid(hall, 0, 0, 1, 10);
    hall.thing(0, 20, false, 0);
    duePaid(hall, 1, 10, 10, 10);
    hall.thing(0, 9, false, 0);
    duePaid(hall, 10, 10, 10, 10);
    due(0, () -> hall.free(0, 0));
    hall.thing(0, 1, false, 0);
    duePaid(hall, 10, 10, 10, 10);
    due(1, () -> hall.free(0, 0));
  }

  /** "a rank that cannot be paid in full is shared by amounts", one coin short of it too. */
  static void payingARankByAmounts() {
    duePaid(owing(30, 20, 10), 20, 10);
    due(0, () -> owing(30, 20, 10).free(0, 0));
    duePaid(owing(31, 20, 10), 20, 10);
    due(1, () -> owing(31, 20, 10).free(0, 0));
    // 29 of 30: 19.33 and 9.67.
    duePaid(owing(29, 20, 10), 19, 10);
    duePaid(owing(3, 20, 10), 2, 1);
    // 1 of 30: 0.67 and 0.33.
    duePaid(owing(1, 20, 10), 1, 0);
    duePaid(owing(0, 20, 10), 0, 0);
  }

  /** "what is left goes, one coin each, to the greatest remainders, of the same to the first ones". */
  static void payingLastCoinsOfDebts() {
    duePaid(owing(1, 5, 5), 1, 0);
    duePaid(owing(5, 5, 5, 5), 2, 2, 1);
    duePaid(owing(4, 5, 5, 5), 2, 1, 1);
    // 10 by 3, 4, 4: 2.73, 3.64 and 3.64.
    duePaid(owing(10, 3, 4, 4), 3, 4, 3);
    // 7 by 1, 2, 5: 0.875, 1.75 and 4.375.
    duePaid(owing(7, 1, 2, 5), 1, 2, 4);
    duePaid(owing(2, 99999, 99999, 99999), 1, 1, 0);
  }

  /** "All that is paid is borne by the pools by their values." */
  static void payingIsBorneByThePools() {
    Probatehall hall = lands(4, 1);
    hall.thing(0, 5, true, 0);
    hall.thing(0, 5, true, 1);
    hall.thing(0, 10, true, 3);
    hall.die(0, 50);
    hall.debt(0, 0, 10);
    // 2.5, 2.5, 0 and 5.
    dueFree(hall, 2, 3, 0, 5);
    hall.debt(0, 1, 1);
    // 2.75, 2.75, 0 and 5.5.
    dueFree(hall, 2, 2, 0, 5);
    hall.debt(0, 1, 8);
    // 19: 4.75, 4.75, 0 and 9.5.
    dueFree(hall, 0, 0, 0, 1);
    hall.debt(0, 3, 1);
    dueFree(hall, 0, 0, 0, 0);
    hall.debt(0, 3, 1);
    dueFree(hall, 0, 0, 0, 0);
  }

  private static void dueFree(Probatehall hall, int... amounts) {
    for (int number = 0; number < amounts.length; number++) {
      int land = number;
      due(amounts[land], () -> hall.free(0, land));
    }
    due(true, hall::isConsistent);
  }

  /** A thing of 10 for 1, one of 10 for 2, one of 10 for nobody, and as much is free as is told. */
  private static Probatehall cutThings(int free) {
    Probatehall hall = hall('s', 4);
    for (int thing = 0; thing < 3; thing++) {
      hall.thing(0, 10, false, 0);
    }
    hall.will(0, 20, true);
    hall.clause(0, 't', 1, 1, -1);
    hall.clause(0, 't', 0, 2, -1);
    hall.clause(0, 'm', 3, 3, -1);
    if (free < 30) {
      hall.debt(0, 0, 30 - free);
    }
    hall.die(0, 50);
    return hall;
  }

  /** "first, the things that go by clauses, by their values, if it does not do for all". */
  static void payingThingsFirst() {
    dueGets(cutThings(30), 0, 0, 0, 10, 10, 3, 7);
    dueGets(cutThings(21), 0, 0, 0, 10, 10, 1, 0);
    dueGets(cutThings(20), 0, 0, 0, 10, 10, 0, 0);
    // The first thing is that of 2.
    dueGets(cutThings(19), 0, 0, 0, 9, 10, 0, 0);
    dueGets(cutThings(18), 0, 0, 0, 9, 9, 0, 0);
    dueGets(cutThings(1), 0, 0, 0, 0, 1, 0, 0);
    dueGets(cutThings(0), 0, 0, 0, 0, 0, 0, 0);
  }

  /** Sums of 5 and 5, told so that the later one goes first by its will, out of a pool of so much. */
  private static Probatehall cutSums(int free) {
    Probatehall hall = lands(2, 3);
    hall.thing(0, free, false, 0);
    hall.thing(0, 100, true, 1);
    hall.will(0, 30, false);
    hall.will(0, 20, false);
    hall.clause(0, 'm', 5, 1, -1);
    hall.clause(1, 'm', 5, 2, -1);
    hall.die(0, 50);
    return hall;
  }

  /** "then, in the pool of the land where the dead one lived, the sums, likewise". */
  static void payingSumsThen() {
    dueGets(cutSums(11), 0, 0, 0, 5, 5, 1);
    dueGets(cutSums(10), 0, 0, 0, 5, 5, 0);
    dueGets(cutSums(9), 0, 0, 0, 4, 5, 0);
    dueGets(cutSums(8), 0, 0, 0, 4, 4, 0);
    dueGets(cutSums(1), 0, 0, 0, 0, 1, 0);
    // Other pools pay no sums, even if these are cut.
    dueGets(cutSums(1), 0, 1, 0, 0, 0, 100);
  }

  /** A pool of nothing where the dead one lived pays no sum, whatever other pools hold. */
  static void payingNoSumsOutOfNothing() {
    Probatehall hall = lands(2, 2);
    hall.thing(0, 100, true, 1);
    hall.will(0, 20, true);
    hall.clause(0, 'm', 5, 1, -1);
    hall.die(0, 50);
    dueGets(hall, 0, 0, 0, 0, 0);
    dueGets(hall, 0, 1, 0, 0, 100);
    hall.live(0, 1, 50);
    dueGets(hall, 0, 1, 0, 5, 95);
  }

  /** "the rest of each pool goes by parts". */
  static void payingTheRestOfEachPoolByParts() {
    Probatehall hall = lands(2, 4);
    hall.thing(0, 5, true, 0);
    hall.thing(0, 8, true, 1);
    hall.will(0, 20, true);
    hall.clause(0, 'r', 1, 2, -1);
    hall.clause(0, 'r', 1, 1, -1);
    hall.die(0, 50);
    dueGets(hall, 0, 0, 0, 2, 3, 0, 0);
    dueGets(hall, 0, 1, 0, 4, 4, 0, 0);
    hall.clause(0, 'r', 99, 3, -1);
    // 5 by 1, 1 and 99: 0.05, 0.05 and 4.90.
    dueGets(hall, 0, 0, 0, 0, 0, 5, 0);
  }

  /** "or, without clauses on the rest, by the shares without a will under this law". */
  static void payingTheRestBySharesUnderThisLaw() {
    Probatehall hall = hall('s', 1);
    hall.land('e', 0, 0, false, false, false);
    hall.person(10, 0, -1);
    hall.person(9, 0, -1);
    hall.person(0, -1, -1);
    hall.thing(0, 9, true, 0);
    hall.thing(0, 9, true, 1);
    hall.will(0, 20, true);
    hall.clause(0, 'm', 2, 3, -1);
    hall.die(0, 50);
    dueGets(hall, 0, 0, 0, 4, 3, 2, 0);
    dueGets(hall, 0, 1, 0, 0, 9, 0, 0);
    // The land is behind all people: it gets what nobody has.
    hall.renounce(1, 0);
    hall.renounce(2, 0);
    dueGets(hall, 0, 0, 0, 0, 0, 2, 7);
    dueGets(hall, 0, 1, 0, 0, 0, 0, 9);
  }

  /** "what is paid out of a pool is the pool": what debts take of the pools is paid, and what is free all get. */
  static void payingIsThePool() {
    for (Told told : Told.values()) {
      for (int dead = 0; dead <= 2; dead += 2) {
        Probatehall hall = told.hall();
        int left = 0;
        for (int land = 0; land < told.lands; land++) {
          int out = 0;
          for (int person = -1; person < told.people; person++) {
            out += hall.gets(dead, land, person);
          }
          int all = out;
          int where = land;
          int whose = dead;
          due(all, () -> hall.free(whose, where));
          left += hall.pool(dead, land) - hall.free(dead, land);
        }
        for (int debt = 0; debt < told.debts; debt++) {
          int owing = told == Told.FULL ? debt % 4 : debt == 2 ? 2 : 0;
          left -= owing == dead ? hall.paidOf(debt) : 0;
        }
        int rest = left;
        due(0, () -> rest);
      }
    }
  }

  /** "Sharing is to the last coin": coins left go to the greatest remainders of the shares, then to the first ones. */
  static void payingLastCoinsOfShares() {
    Probatehall hall = hall('f', 2);
    hall.person(10, 0, 1);
    hall.person(30, 2, -1);
    hall.person(10, -1, -1);
    hall.marry(2, 4, 20);
    hall.die(2, 50);
    hall.thing(2, 1, false, 0);
    // 2/11, 2/11, 4/11 for the child and 3/11 for the spouse.
    dueGets(hall, 2, 0, 0, 0, 0, 1, 0, 0);
    hall.thing(2, 1, false, 0);
    // 0.36, 0.36, 0.73 and 0.55.
    dueGets(hall, 2, 0, 0, 0, 0, 1, 1, 0);
    hall.thing(2, 1, false, 0);
    // 0.55, 0.55, 1.09 and 0.82.
    dueGets(hall, 2, 0, 1, 0, 0, 1, 1, 0);
    hall.thing(2, 8, false, 0);
    dueGets(hall, 2, 0, 2, 2, 0, 4, 3, 0);
  }

  /** Shares of unlike lower numbers: 1/3, 1/3, 1/6 and 1/6. */
  static void payingSharesOfUnlikeLowerNumbers() {
    Probatehall hall = hall('s', 2);
    hall.person(10, 0, -1);
    hall.person(10, 0, -1);
    hall.person(30, 2, -1);
    hall.person(30, 2, -1);
    hall.marry(0, 1, 5);
    hall.die(2, 40);
    hall.die(0, 50);
    hall.thing(0, 1000, false, 0);
    // 333.33, 333.33, 166.67 and 166.67.
    dueGets(hall, 0, 0, 0, 333, 0, 333, 167, 167, 0);
    hall.thing(0, 99999, false, 0);
    // 33666.33, 33666.33, 16833.17 and 16833.17.
    dueGets(hall, 0, 0, 0, 33667, 0, 33666, 16833, 16833, 0);
    hall.thing(0, 3, false, 0);
    // 33667.33, 33667.33, 16833.67 and 16833.67.
    dueGets(hall, 0, 0, 0, 33667, 0, 33667, 16834, 16834, 0);
  }

  /** The first thing, clause and will, and the first person, as the one named or in place of that one. */
  static void payingToThePersonNumbered0() {
    Probatehall hall = hall('s', 4);
    hall.thing(1, 10, false, 0);
    hall.thing(1, 10, false, 0);
    hall.will(1, 20, true);
    hall.clause(0, 't', 0, 0, -1);
    hall.die(1, 50);
    dueGets(hall, 1, 0, 10, 0, 0, 0, 10);
    hall.clause(0, 'm', 3, 1, 0);
    dueGets(hall, 1, 0, 13, 0, 0, 0, 7);
    hall.clause(0, 'r', 3, 0, 2);
    dueGets(hall, 1, 0, 20, 0, 0, 0, 0);
    hall.setUnworthy(0, 1, true);
    dueGets(hall, 1, 0, 0, 0, 20, 0, 0);
  }

  // ---- forced shares

  /** A dead one with two children and somebody else, forced twelfths, and a will for that one over all. */
  private static Probatehall forcing(int forced, int value) {
    Probatehall hall = hall('s', forced, 1);
    hall.person(10, 0, -1);
    hall.person(10, 0, -1);
    hall.person(0, -1, -1);
    hall.thing(0, value, false, 0);
    hall.will(0, 20, true);
    hall.clause(0, 'r', 1, 3, -1);
    hall.die(0, 50);
    return hall;
  }

  /** "and a land has forced twelfths": 0, 1, 11 and 12 of them. */
  static void forcedTwelfths() {
    due(0, () -> forcing(0, 240).claims(0, 0, 1));
    dueGets(forcing(0, 240), 0, 0, 0, 0, 0, 240, 0);
    due(10, () -> forcing(1, 240).claims(0, 0, 1));
    dueGets(forcing(1, 240), 0, 0, 0, 10, 10, 220, 0);
    due(110, () -> forcing(11, 240).claims(0, 0, 2));
    dueGets(forcing(11, 240), 0, 0, 0, 110, 110, 20, 0);
    due(120, () -> forcing(12, 240).claims(0, 0, 2));
    dueGets(forcing(12, 240), 0, 0, 0, 120, 120, 0, 0);
  }

  /** "of the own share without a will, rounded down": once, at the end. */
  static void forcedSharesAreRoundedDown() {
    due(0, () -> forcing(1, 23).claims(0, 0, 1));
    due(1, () -> forcing(1, 24).claims(0, 0, 1));
    due(1, () -> forcing(1, 47).claims(0, 0, 1));
    // 3 by 1/2 by 8/12 is 1; if 3 by 1/2 were rounded by itself, nothing would be left.
    due(1, () -> forcing(8, 3).claims(0, 0, 1));
    due(0, () -> forcing(7, 3).claims(0, 0, 1));
    due(49999, () -> forcing(12, 99999).claims(0, 0, 1));
    dueGets(forcing(12, 99999), 0, 0, 0, 49999, 49999, 1, 0);
  }

  /** "of what is free in its pool": not of the pool. */
  static void forcedSharesAreOfWhatIsFree() {
    Probatehall hall = forcing(12, 100);
    hall.debt(0, 0, 60);
    due(20, () -> hall.claims(0, 0, 1));
    hall.debt(0, 0, 39);
    due(0, () -> hall.claims(0, 0, 1));
    dueGets(hall, 0, 0, 0, 0, 0, 1, 0);
    hall.debt(0, 0, 1);
    due(0, () -> hall.claims(0, 0, 1));
    dueGets(hall, 0, 0, 0, 0, 0, 0, 0);
  }

  /** "If a will is in force": an empty addition is one, a revoked one is none, one behind the death neither. */
  static void forcedSharesNeedAWillInForce() {
    Probatehall hall = forcing(6, 100);
    due(25, () -> hall.claims(0, 0, 1));
    hall.revoke(0);
    due(0, () -> hall.claims(0, 0, 1));
    dueGets(hall, 0, 0, 0, 50, 50, 0, 0);
    hall.will(0, 51, true);
    due(0, () -> hall.claims(0, 0, 1));
    hall.will(0, 50, false);
    due(25, () -> hall.claims(0, 0, 1));
    dueGets(hall, 0, 0, 0, 50, 50, 0, 0);
  }

  /** "each descendant, and the spouse": not parents, and not those whose share is nothing. */
  static void forcedSharesOfDescendantsAndTheSpouse() {
    Probatehall hall = hall('f', 12, 2);
    hall.person(10, 0, 1);
    hall.person(30, 2, -1);
    hall.person(40, 3, -1);
    hall.person(0, -1, -1);
    hall.marry(2, 5, 20);
    hall.thing(2, 110, false, 0);
    hall.will(2, 20, true);
    hall.die(2, 50);
    due(0, () -> hall.claims(2, 0, 0));
    due(0, () -> hall.claims(2, 0, 1));
    due(0, () -> hall.claims(2, 0, 2));
    due(40, () -> hall.claims(2, 0, 3));
    due(0, () -> hall.claims(2, 0, 4));
    due(30, () -> hall.claims(2, 0, 5));
    hall.clause(0, 'r', 1, 4, -1);
    dueGets(hall, 2, 0, 0, 0, 0, 40, 40, 30, 0);
  }

  /** A grandchild claims in place of a child that does not take. */
  static void forcedSharesOfGrandchildren() {
    Probatehall hall = forcing(6, 100);
    hall.person(30, 1, -1);
    due(0, () -> hall.claims(0, 0, 4));
    hall.die(1, 50);
    due(0, () -> hall.claims(0, 0, 1));
    due(25, () -> hall.claims(0, 0, 4));
    dueGets(hall, 0, 0, 0, 0, 25, 50, 25, 0);
  }

  /** "Who gets less out of this pool gets what is missing": one coin less, just as much, one coin more. */
  static void forcedSharesThatAreJustThere() {
    for (int sum = 24; sum <= 26; sum++) {
      Probatehall hall = forcing(6, 100);
      hall.clause(0, 'm', sum, 1, -1);
      hall.clause(0, 'm', 25, 2, -1);
      hall.clause(0, 'm', 75 - sum, 3, -1);
      dueGets(hall, 0, 0, 0, Math.max(25, sum), 25, sum < 25 ? 50 : 75 - sum, 0);
    }
  }

  /** "shared among all others .. by what they get out of it above what they may claim themselves". */
  static void forcedSharesAreBorneByWhatIsAbove() {
    Probatehall hall = forcing(12, 100);
    hall.person(0, -1, -1);
    hall.clause(0, 'm', 60, 1, -1);
    hall.clause(0, 'm', 15, 4, -1);
    // 60, 0, 25 and 15 against claims of 50, 50, 0 and 0: 10, 25 and 15 above, and all of it is missing.
    dueGets(hall, 0, 0, 0, 50, 50, 0, 0, 0);
    Probatehall half = forcing(6, 100);
    half.person(0, -1, -1);
    half.clause(0, 'm', 60, 1, -1);
    half.clause(0, 'm', 15, 4, -1);
    // 25 missing of 35, 25 and 15 above: 11.67, 8.33 and 5.
    dueGets(half, 0, 0, 0, 48, 25, 17, 10, 0);
  }

  /** The last coin is borne by the greatest remainder, of the same by the first one. */
  static void forcedSharesToTheLastCoin() {
    Probatehall hall = forcing(6, 100);
    hall.person(0, -1, -1);
    hall.clause(0, 'm', 25, 1, -1);
    hall.clause(0, 'r', 1, 4, -1);
    // 75 in halves: 38 and 37; 25 missing by 38 and 37: 12.67 and 12.33.
    dueGets(hall, 0, 0, 0, 25, 25, 25, 25, 0);
    Probatehall even = forcing(2, 90);
    even.person(0, -1, -1);
    even.clause(0, 'r', 1, 4, -1);
    even.clause(0, 'm', 7, 2, -1);
    even.clause(0, 'm', 1, 3, -1);
    // 7 claimed by each child; the rest is 82, so 3 has 42 and 4 has 41; 7 missing by these: 3.54 and 3.46.
    due(7, () -> even.claims(0, 0, 1));
    dueGets(even, 0, 0, 0, 7, 7, 38, 38, 0);
  }

  /** Two bear a missing coin alike: the first one bears the one that cannot be halved. */
  static void forcedSharesTheFirstBearsTheLastCoin() {
    Probatehall hall = hall('s', 6, 1);
    hall.person(10, 0, -1);
    hall.person(0, -1, -1);
    hall.person(0, -1, -1);
    hall.thing(0, 10, false, 0);
    hall.will(0, 20, true);
    hall.clause(0, 'r', 1, 3, -1);
    hall.clause(0, 'r', 1, 2, -1);
    hall.die(0, 50);
    dueGets(hall, 0, 0, 0, 5, 2, 3, 0);
  }

  /** The spouse is the first person, and is missing a claim, or bears what another one is missing. */
  static void forcedSharesOfThePersonNumbered0() {
    Probatehall hall = hall('s', 6, 2);
    hall.person(10, 1, -1);
    hall.person(0, -1, -1);
    hall.marry(0, 1, 20);
    hall.thing(1, 90, false, 0);
    hall.will(1, 20, true);
    hall.clause(0, 'r', 1, 3, -1);
    hall.die(1, 50);
    due(15, () -> hall.claims(1, 0, 0));
    due(30, () -> hall.claims(1, 0, 2));
    dueGets(hall, 1, 0, 15, 0, 30, 45, 0);
    hall.clause(0, 'm', 60, 0, -1);
    // 60 and 30 against 15 and 0: 30 missing by 45 and 30.
    dueGets(hall, 1, 0, 42, 0, 30, 18, 0);
  }

  /** "of the own share": all of it, of a spouse who is a parent too. */
  static void forcedSharesOfASpouseWhoIsAParent() {
    Probatehall hall = hall('f', 12, 2);
    hall.person(10, 0, 1);
    hall.person(0, -1, -1);
    hall.marry(2, 1, 40);
    hall.thing(2, 70, false, 0);
    hall.will(2, 40, true);
    hall.clause(0, 'r', 1, 3, -1);
    hall.die(2, 50);
    due(50, () -> hall.claims(2, 0, 1));
    due(0, () -> hall.claims(2, 0, 0));
    dueGets(hall, 2, 0, 0, 50, 0, 20, 0);
    hall.part(0, 50);
    due(0, () -> hall.claims(2, 0, 1));
    dueGets(hall, 2, 0, 0, 0, 0, 70, 0);
  }

  /** "Who gets less out of this pool": what one gets out of another pool is not looked at. */
  static void forcedSharesLookAtThisPoolAlone() {
    Probatehall hall = forcing(6, 100);
    hall.land('s', 0, 0, false, false, false);
    hall.thing(0, 400, true, 1);
    hall.clause(0, 't', 1, 1, -1);
    hall.die(0, 50);
    dueGets(hall, 0, 1, 0, 400, 0, 0, 0);
    dueGets(hall, 0, 0, 0, 25, 25, 50, 0);
  }

  /** "a land has forced twelfths": each law looks at its own pool alone. */
  static void forcedSharesByLands() {
    Probatehall hall = forcing(6, 100);
    hall.land('s', 0, 0, false, false, false);
    hall.thing(0, 40, true, 1);
    due(25, () -> hall.claims(0, 0, 1));
    due(0, () -> hall.claims(0, 1, 1));
    dueGets(hall, 0, 0, 0, 25, 25, 50, 0);
    dueGets(hall, 0, 1, 0, 0, 0, 40, 0);
  }

  // ---- taxes

  /** "a percentage, .. rounded down". */
  static void taxesAreRoundedDown() {
    Probatehall hall = hall('s', 1);
    hall.person(10, 0, -1);
    hall.thing(0, 99, false, 0);
    hall.die(0, 50);
    hall.taxes(0, 1, 99);
    due(0, () -> hall.tax(0, 0, 1));
    hall.thing(0, 1, false, 0);
    due(1, () -> hall.tax(0, 0, 1));
    hall.thing(0, 99, false, 0);
    due(1, () -> hall.tax(0, 0, 1));
    hall.taxes(0, 99, 0);
    due(197, () -> hall.tax(0, 0, 1));
    hall.taxes(0, 0, 99);
    due(0, () -> hall.tax(0, 0, 1));
  }

  /** "near for descendants and the spouse, far for others". */
  static void taxesNearAndFar() {
    Probatehall hall = siblings('s');
    hall.person(20, 2, -1);
    hall.person(30, 7, -1);
    hall.person(0, -1, -1);
    hall.marry(2, 9, 49);
    hall.thing(2, 900, false, 0);
    hall.taxes(0, 10, 50);
    hall.will(2, 20, true);
    for (int number = 0; number < 10; number++) {
      hall.clause(0, 'm', 100, number, -1);
    }
    for (int number = 0; number < 10; number++) {
      int person = number;
      boolean near = number == 7 || number == 8 || number == 9;
      due(number == 2 ? 0 : near ? 10 : 50, () -> hall.tax(2, 0, person));
    }
    // A spouse who has parted is another one.
    hall.part(0, 50);
    due(50, () -> hall.tax(2, 0, 9));
  }

  /** "Of what somebody gets": with what was missing of a claim, and without what others were missing. */
  static void taxesOfForcedShares() {
    Probatehall hall = forcing(6, 100);
    hall.taxes(0, 20, 50);
    due(5, () -> hall.tax(0, 0, 1));
    due(5, () -> hall.tax(0, 0, 2));
    due(25, () -> hall.tax(0, 0, 3));
    due(25, () -> hall.gets(0, 0, 1));
    due(50, () -> hall.gets(0, 0, 3));
  }

  /** "out of the pool of a land": each land has taxes of its own, on its own pool. */
  static void taxesByLands() {
    Probatehall hall = hall('s', 1);
    hall.land('s', 0, 9, false, false, false);
    hall.person(10, 0, -1);
    hall.person(0, -1, -1);
    hall.marry(0, 2, 20);
    hall.thing(0, 300, true, 0);
    hall.thing(0, 600, true, 1);
    hall.taxes(0, 10, 0);
    hall.taxes(1, 50, 99);
    hall.die(0, 50);
    due(20, () -> hall.tax(0, 0, 1));
    due(200, () -> hall.tax(0, 1, 1));
    due(10, () -> hall.tax(0, 0, 2));
    due(100, () -> hall.tax(0, 1, 2));
    // Within the days of survival of the land 1 alone: the spouse by its law is none, and a clause makes an other.
    hall.die(2, 55);
    due(10, () -> hall.tax(0, 0, 2));
    due(300, () -> hall.tax(0, 1, 1));
    due(0, () -> hall.tax(0, 1, 2));
    hall.will(0, 20, true);
    hall.clause(0, 'r', 1, 2, -1);
    due(30, () -> hall.tax(0, 0, 2));
    due(594, () -> hall.tax(0, 1, 2));
  }

  static void taxesOfNothing() {
    Probatehall hall = hall('s', 2);
    hall.taxes(0, 99, 99);
    hall.die(0, 50);
    due(0, () -> hall.tax(0, 0, 1));
    due(0, () -> hall.tax(0, 0, 0));
  }

  /** The greatest pool and the greatest percentage there can be. */
  static void taxesOfTheGreatest() {
    Probatehall hall = hall('s', 1);
    hall.person(10, 0, -1);
    for (int count = 0; count < 20; count++) {
      hall.thing(0, 99999, false, 0);
    }
    hall.taxes(0, 99, 0);
    hall.die(0, 50);
    due(1999980, () -> hall.gets(0, 0, 1));
    due(1979980, () -> hall.tax(0, 0, 1));
  }

  // ---- figures

  /** "The share of the debts of the dead that is paid": none, a part, one coin short, all. */
  static void figuresOfWhatIsPaid() {
    due(0.0f, () -> owing(0, 20).paidShare());
    due(0.05f, () -> owing(1, 20).paidShare());
    due(19.0f / 20.0f, () -> owing(19, 20).paidShare());
    due(1.0f, () -> owing(20, 20).paidShare());
    due(1.0f, () -> owing(99999, 20).paidShare());
    due(1.0f / 3.0f, () -> owing(1, 1, 2).paidShare());
    due(99998.0f / 99999.0f, () -> owing(99998, 99999).paidShare());
  }

  static void figuresOfTheDeadAlone() {
    Probatehall hall = owing(10, 20);
    hall.person(0, -1, -1);
    hall.debt(1, 0, 50);
    due(0.5f, hall::paidShare);
    hall.die(1, 60);
    due(10.0f / 70.0f, hall::paidShare);
    hall.thing(1, 50, false, 0);
    due(60.0f / 70.0f, hall::paidShare);
  }

  static void figuresOfTheGreatest() {
    Probatehall hall = hall('s', 1);
    for (int count = 0; count < 20; count++) {
      hall.thing(0, 99999, false, 0);
      hall.debt(0, 3, 99999);
    }
    due(99999.0, hall::meanValue);
    due(ARITHMETIC, hall::paidShare);
    hall.die(0, 0);
    due(1.0f, hall::paidShare);
    due(1999980, () -> hall.pool(0, 0));
    due(0, () -> hall.free(0, 0));
    due(true, hall::isConsistent);
  }

  // ---- what is found, each by itself

  private interface Question {
    Object of(Probatehall hall, int dead, int land, int person);
  }

  private static final Question[] QUESTIONS = {
    (hall, dead, land, person) -> hall.takes(person, dead, land),
    (hall, dead, land, person) -> hall.spouse(dead, land),
    (hall, dead, land, person) -> hall.shareTop(dead, land, person),
    (hall, dead, land, person) -> hall.shareBottom(dead, land, person),
    (hall, dead, land, person) -> hall.governs(person, dead),
    (hall, dead, land, person) -> hall.inForce(dead, person),
    (hall, dead, land, person) -> hall.pool(dead, land),
    (hall, dead, land, person) -> hall.free(dead, land),
    (hall, dead, land, person) -> hall.paidOf(person),
    (hall, dead, land, person) -> hall.claims(dead, land, person),
    (hall, dead, land, person) -> hall.gets(dead, land, person),
    (hall, dead, land, person) -> hall.tax(dead, land, person)
  };

  /** An answer does not depend on what was asked ahead of it. */
  static void foundWhateverWasAskedAhead() {
    for (Told told : Told.values()) {
      for (int number = 0; number < 2 * told.lands * told.people; number++) {
        int dead = number % 2 == 0 ? 0 : 2;
        int land = number / 2 % told.lands;
        int person = number / 2 / told.lands;
        Probatehall asked = told.hall();
        for (Question question : QUESTIONS) {
          Object due = answer(() -> question.of(told.hall(), dead, land, person));
          for (Question ahead : QUESTIONS) {
            answer(() -> ahead.of(asked, 2 - dead, told.lands - 1 - land, told.people - 1 - person));
          }
          due(due, () -> question.of(asked, dead, land, person));
        }
      }
    }
  }

  // ---- what is empty

  static void emptyOfAll() {
    Probatehall hall = new Probatehall();
    due(true, hall::isConsistent);
    due(ARITHMETIC, hall::paidShare);
    due(ARITHMETIC, hall::meanValue);
    due(INDEX, () -> hall.taxes(0, 0, 0));
    due(INDEX, () -> hall.die(0, 0));
    due(INDEX, () -> hall.marry(0, 1, 0));
    due(INDEX, () -> hall.part(0, 0));
    due(INDEX, () -> hall.live(0, 0, 0));
    due(INDEX, () -> hall.setUnworthy(0, 0, true));
    due(INDEX, () -> hall.renounce(0, 0));
    due(INDEX, () -> hall.thing(0, 1, false, 0));
    due(INDEX, () -> hall.give(0, 0, 0));
    due(INDEX, () -> hall.debt(0, 0, 1));
    due(INDEX, () -> hall.will(0, 0, true));
    due(INDEX, () -> hall.revoke(0));
    due(INDEX, () -> hall.clause(0, 'm', 1, 0, -1));
    due(INDEX, () -> hall.livedIn(0, 0));
    due(INDEX, () -> hall.takes(0, 0, 0));
    due(INDEX, () -> hall.spouse(0, 0));
    due(INDEX, () -> hall.shareTop(0, 0, -1));
    due(INDEX, () -> hall.shareBottom(0, 0, -1));
    due(INDEX, () -> hall.governs(0, 0));
    due(INDEX, () -> hall.inForce(0, 0));
    due(INDEX, () -> hall.pool(0, 0));
    due(INDEX, () -> hall.free(0, 0));
    due(INDEX, () -> hall.paidOf(0));
    due(INDEX, () -> hall.claims(0, 0, 0));
    due(INDEX, () -> hall.gets(0, 0, -1));
    due(INDEX, () -> hall.tax(0, 0, 0));
    due(true, hall::isConsistent);
    due(0, () -> hall.land('s', 0, 0, false, false, false));
    due(0, () -> hall.person(0, -1, -1));
  }

  static void emptyOfLands() {
    Probatehall hall = new Probatehall();
    hall.person(0, -1, -1);
    hall.person(0, -1, -1);
    hall.marry(0, 1, 30);
    hall.will(0, 20, true);
    hall.clause(0, 'r', 5, 1, -1);
    hall.debt(0, 0, 5);
    hall.die(0, 50);
    due(0, () -> hall.livedIn(0, 50));
    due(INDEX, () -> hall.live(0, 0, 5));
    due(INDEX, () -> hall.takes(1, 0, 0));
    due(INDEX, () -> hall.spouse(0, 0));
    due(INDEX, () -> hall.free(0, 0));
    dueWills(hall, 0, 0);
    duePaid(hall, 0);
    due(0.0f, hall::paidShare);
    due(true, () -> hall.renounce(1, 0));
    due(true, hall::isConsistent);
  }

  static void emptyOfPeople() {
    Probatehall hall = hall('s', 0);
    due(INDEX, () -> hall.pool(0, 0));
    due(INDEX, () -> hall.thing(0, 5, false, 0));
    due(INDEX, () -> hall.gets(0, 0, -1));
    due(true, hall::isConsistent);
    due(0, () -> hall.taxes(0, 5, 5));
  }

  static void emptyOfThings() {
    for (char system : SYSTEMS) {
      Probatehall hall = hall(system, 6, 2);
      hall.marry(0, 1, 5);
      hall.debt(0, 0, 5);
      hall.will(0, 5, true);
      hall.clause(0, 'm', 5, 1, -1);
      hall.clause(0, 'r', 5, 1, -1);
      hall.die(0, 50);
      due(0, () -> hall.pool(0, 0));
      due(0, () -> hall.free(0, 0));
      due(0, () -> hall.paidOf(0));
      due(0, () -> hall.claims(0, 0, 1));
      due(0, () -> hall.tax(0, 0, 1));
      dueGets(hall, 0, 0, 0, 0, 0);
      due(ARITHMETIC, hall::meanValue);
    }
  }

  static void emptyOfDebts() {
    Probatehall hall = owing(9);
    due(9, () -> hall.free(0, 0));
    due(INDEX, () -> hall.paidOf(0));
    due(ARITHMETIC, hall::paidShare);
  }

  static void emptyOfWillsAndOfClauses() {
    Probatehall hall = hall('s', 12, 1);
    hall.person(10, 0, -1);
    hall.thing(0, 9, false, 0);
    hall.die(0, 50);
    dueWills(hall, 0);
    due(0, () -> hall.claims(0, 0, 1));
    dueGets(hall, 0, 0, 0, 9, 0);
    hall.will(0, 5, true);
    dueWills(hall, 0, 0);
    due(9, () -> hall.claims(0, 0, 1));
    dueGets(hall, 0, 0, 0, 9, 0);
  }

  static void emptyOfWhoTakes() {
    for (char system : SYSTEMS) {
      Probatehall hall = hall(system, 12, 2);
      hall.person(10, 0, 1);
      hall.person(20, 2, -1);
      hall.marry(0, 2, 30);
      hall.thing(2, 9, false, 0);
      hall.will(2, 20, true);
      hall.clause(0, 't', 0, 0, 1);
      hall.clause(0, 'm', 5, 3, 2);
      hall.clause(0, 'r', 5, 2, -1);
      hall.die(2, 50);
      for (int person : new int[] {0, 1, 3}) {
        hall.setUnworthy(person, 2, true);
      }
      due(-1, () -> hall.spouse(2, 0));
      dueShare(hall, 2, 0, -1, 1, 1);
      due(0, () -> hall.claims(2, 0, 3));
      dueGets(hall, 2, 0, 0, 0, 0, 0, 9);
    }
  }

  // ---- what is full

  /** Each limit at its last place, all values as great as they may be, and questions up to the 512th call. */
  static void fullUpTo512Calls() {
    Probatehall hall = new Probatehall();
    for (int land = 0; land < 4; land++) {
      hall.land("shfe".charAt(land), 6, 999, true, true, true);
    }
    for (int person = 0; person < 16; person++) {
      hall.person(0, person == 0 ? -1 : 0, person < 2 ? -1 : 1);
    }
    for (int marriage = 0; marriage < 20; marriage++) {
      hall.marry(0, 1 + marriage % 15, 0);
    }
    for (int stay = 0; stay < 60; stay++) {
      hall.live(0, stay % 4, 99999);
    }
    for (int thing = 0; thing < 20; thing++) {
      hall.thing(0, 99999, true, thing % 4);
      hall.debt(0, thing % 4, thing < 10 ? 99999 : 1);
    }
    for (int will = 0; will < 12; will++) {
      hall.will(0, 99999, will == 0);
    }
    for (int clause = 0; clause < 40; clause++) {
      hall.clause(11, 'm', 99999, 15, -1);
    }
    hall.die(0, 99999);
    // 193 calls so far. The land 3, where the dead one lived last, governs all: 1999980 less debts of 1000000. The
    // eldest claims half of it, and 15 has sums of more than all.
    for (int call = 194; call <= 511; call++) {
      int person = call % 15 + 1;
      due(person == 1 || person == 15 ? 499990 : 0, () -> hall.gets(0, 3, person));
    }
    due(true, hall::isConsistent);
  }

  /** One call behind each limit is refused, and what was told ahead of it stands. */
  static void fullAndOneCallBehindIt() {
    Probatehall hall = Told.FULL.hall();
    due(STATE, () -> hall.land('s', 0, 0, false, false, false));
    due(STATE, () -> hall.person(0, -1, -1));
    due(STATE, () -> hall.marry(0, 1, 0));
    due(STATE, () -> hall.live(0, 0, 0));
    due(STATE, () -> hall.thing(0, 1, false, 0));
    due(STATE, () -> hall.debt(0, 0, 1));
    due(STATE, () -> hall.will(0, 0, true));
    due(STATE, () -> hall.clause(0, 'm', 1, 0, -1));
    // All that takes the place of something told is no more than before.
    due(396, () -> hall.taxes(3, 1, 1));
    due(200, () -> hall.die(0, 201));
    due(-1, () -> hall.part(19, 99));
    due(5, () -> hall.give(4, 6, 61));
    due(false, () -> hall.setUnworthy(15, 0, true));
    due(true, () -> hall.renounce(15, 0));
    due(true, () -> hall.revoke(11));
    due(true, hall::isConsistent);
  }

  /** All 16 people are dead, each with a debt: the last one's counts too. */
  static void fullOfTheDead() {
    Probatehall hall = hall('s', 15);
    hall.person(0, 0, 1);
    for (int person = 0; person < 16; person++) {
      hall.debt(person, 0, 2);
      hall.thing(person, person + 1, false, 0);
      hall.die(person, 50);
    }
    // The first one has but 1 for a debt of 2.
    due(31.0f / 32.0f, hall::paidShare);
    due(2, () -> hall.paidOf(15));
    due(14, () -> hall.free(15, 0));
    dueShare(hall, 15, 0, -1, 1, 1);
    due(14, () -> hall.gets(15, 0, -1));
    due(8.5, hall::meanValue);
    due(true, hall::isConsistent);
  }

  /** 40 clauses on the rest share 41 coins: each has one, and the first one, of like remainders, one more. */
  static void fullOfClausesOnTheRest() {
    Probatehall hall = hall('s', 4);
    hall.thing(0, 41, false, 0);
    hall.will(0, 20, true);
    for (int clause = 0; clause < 40; clause++) {
      hall.clause(0, 'r', 99, clause == 0 ? 3 : clause == 39 ? 2 : 1, -1);
    }
    hall.die(0, 50);
    dueGets(hall, 0, 0, 0, 38, 1, 2, 0);
  }

  /** 20 things go by clauses, and 19 coins are free: the last thing, of like remainders, goes without. */
  static void fullOfThingsByClauses() {
    Probatehall hall = hall('s', 3);
    hall.will(0, 20, true);
    for (int thing = 0; thing < 20; thing++) {
      hall.thing(0, 5, false, 0);
      hall.clause(0, 't', thing, thing == 19 ? 2 : 1, -1);
    }
    hall.debt(0, 3, 81);
    hall.die(0, 50);
    dueGets(hall, 0, 0, 0, 19, 0, 0);
  }

  /** 20 debts of one rank share 19 coins: the last one, of like remainders, has none. */
  static void fullOfDebtsOfOneRank() {
    Probatehall hall = hall('s', 1);
    for (int debt = 0; debt < 20; debt++) {
      hall.debt(0, 3, 99999);
    }
    hall.thing(0, 19, false, 0);
    hall.die(0, 50);
    duePaid(hall, 1, 1, 1, 1, 1, 1, 1, 1, 1, 1, 1, 1, 1, 1, 1, 1, 1, 1, 1, 0);
  }

  /** All 12 wills are additions in force, told from the last day to the first. */
  static void fullOfWillsInForce() {
    Probatehall hall = hall('s', 1);
    for (int will = 0; will < 12; will++) {
      hall.will(0, 12 - will, false);
    }
    hall.die(0, 50);
    dueWills(hall, 0, 11, 10, 9, 8, 7, 6, 5, 4, 3, 2, 1, 0);
  }

  /** 15 children take alike, and the last of them is born as late as may be. */
  static void fullOfChildren() {
    for (char system : SYSTEMS) {
      Probatehall hall = hall(system, 12, 1);
      for (int child = 1; child < 16; child++) {
        hall.person(child == 15 ? 350 : 10, 0, -1);
      }
      hall.thing(0, 16, false, 0);
      hall.will(0, 20, true);
      hall.die(0, 50);
      dueShare(hall, 0, 0, 15, system == 'e' ? 0 : 1, system == 'e' ? 1 : 15);
      due(system == 'e' ? 0 : 1, () -> hall.claims(0, 0, 15));
      due(system == 'e' ? 16 : 2, () -> hall.gets(0, 0, 1));
      due(system == 'e' ? 0 : 1, () -> hall.gets(0, 0, 2));
      due(true, hall::isConsistent);
    }
  }

  /** The last ones of each kind are counted in: the last thing, debt, clause and will, of the last person. */
  static void fullToTheLastOfEach() {
    Probatehall hall = lands(4, 16);
    for (int count = 0; count < 19; count++) {
      hall.thing(0, 1, false, 0);
      hall.debt(0, 0, 1);
      hall.marry(0, 1, 0);
    }
    hall.thing(15, 9, true, 3);
    hall.debt(15, 3, 2);
    hall.marry(14, 15, 0);
    for (int will = 0; will < 11; will++) {
      hall.will(0, 0, true);
    }
    hall.will(15, 0, false);
    for (int clause = 0; clause < 39; clause++) {
      hall.clause(0, 'm', 1, 1, -1);
    }
    hall.clause(11, 't', 19, 13, -1);
    for (int stay = 0; stay < 59; stay++) {
      hall.live(0, 1, stay);
    }
    hall.live(15, 3, 0);
    hall.die(15, 0);
    due(3, () -> hall.governs(19, 15));
    due(9, () -> hall.pool(15, 3));
    due(2, () -> hall.paidOf(19));
    due(7, () -> hall.free(15, 3));
    due(14, () -> hall.spouse(15, 3));
    dueWills(hall, 15, 11);
    due(7, () -> hall.gets(15, 3, 13));
    due(0, () -> hall.gets(15, 3, 14));
    due(3, () -> hall.livedIn(15, 0));
  }
}
