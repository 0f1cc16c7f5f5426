import java.util.ArrayList;
import java.util.Arrays;
import java.util.Collections;
import java.util.HashSet;
import java.util.List;
import java.util.NoSuchElementException;
import java.util.Random;
import java.util.Set;

/** Runs of calls by chance, from fixed seeds, each answered by the class and by the model alike. */
public final class RandomRunsTest {
  private static final String[] TELLING = {
    "land", "taxes", "person", "die", "marry", "part", "live", "setUnworthy", "renounce", "thing", "give", "debt",
    "will", "revoke", "clause"};
  private static final int[] TELLING_OFTEN = {2, 1, 8, 4, 3, 1, 4, 2, 1, 7, 2, 4, 3, 1, 9};
  /** How often each is told in a run that fills a hall: one call more than there may be of each. */
  private static final int[] TELLING_TO_FILL = {5, 3, 17, 8, 21, 3, 61, 5, 3, 21, 8, 21, 13, 1, 41};
  private static final String[] LIMITED = {"land", "person", "marry", "live", "thing", "debt", "will", "clause"};
  private static final String[] ASKING = {
    "livedIn", "takes", "spouse", "shareTop", "shareBottom", "governs", "inForce", "pool", "free", "paidOf",
    "claims", "gets", "tax", "paidShare", "meanValue", "isConsistent"};
  private static final int[] ASKING_OFTEN = {2, 3, 2, 5, 5, 3, 3, 2, 4, 4, 7, 12, 4, 1, 1, 1};
  /** An object lives for 512 calls, and the wholes of one who has died ask 80 more at the most. */
  private static final int CALLS = 432;

  private final Random random;
  private final Probatehall hall = new Probatehall();
  private final HallModel model = new HallModel();
  private int lands;
  private int people;
  private int marriages;
  private int things;
  private int debts;
  private int wills;
  /** Of each debt, who owes it. */
  private final List<Integer> owing = new ArrayList<>();
  private final List<Integer> died = new ArrayList<>();
  private final int spanOfDays;
  private final int spanOfValues;
  private final boolean errs;
  /** What is told first in a run that fills a hall; empty in other runs. */
  private final List<String> filling = new ArrayList<>();
  /** The one around whom most of a run goes, so that rich estates come about. */
  private final int chief;

  private RandomRunsTest(long seed) {
    random = new Random(seed);
    spanOfDays = new int[] {4, 40, 900, 99999}[random.nextInt(4)];
    spanOfValues = new int[] {5, 60, 1000, 99999}[random.nextInt(4)];
    errs = random.nextInt(4) == 0;
    chief = random.nextInt(6);
    if (seed % 5 == 0) {
      for (int kind = 0; kind < TELLING.length; kind++) {
        filling.addAll(Collections.nCopies(TELLING_TO_FILL[kind], TELLING[kind]));
      }
      Collections.shuffle(filling, random);
    }
  }

  public static void main(String[] args) {
    int runs = args.length > 0 ? Integer.parseInt(args[0]) : 1500;
    long first = args.length > 1 ? Long.parseLong(args[1]) : 1;
    Set<String> seen = new HashSet<>();
    for (long seed = first; seed < first + runs; seed++) {
      String wrong = new RandomRunsTest(seed).run(seen);
      if (wrong != null) {
        System.out.println("seed " + seed + ": " + wrong);
        System.exit(1);
      }
    }
    for (String call : TELLING) {
      needSeen(seen, call + " answered");
    }
    for (String call : ASKING) {
      needSeen(seen, call + " answered");
    }
    for (String call : LIMITED) {
      needSeen(seen, call + " threw the state's");
    }
    System.out.println(runs + " runs, all answers alike");
  }

  private static void needSeen(Set<String> seen, String what) {
    if (!seen.contains(what)) {
      System.out.println("never seen: " + what);
      System.exit(1);
    }
  }

  private String run(Set<String> seen) {
    for (int count = 0; count < CALLS; count++) {
      String name = count < 12 ? new String[] {"land", "person", "person"}[count % 3]
          : filling.isEmpty() ? nextOfFreeRun(count) : nextOfFillingRun(count - 12);
      int[] args = args(name);
      Object due = answer(() -> onModel(name, args));
      Object found = answer(() -> onHall(name, args));
      seen.add(name + (due == IllegalStateException.class ? " threw the state's"
          : due instanceof Class ? " threw" : " answered"));
      if (!due.equals(found)) {
        return "call " + count + ", " + name + Arrays.toString(args) + " answered " + found + ", due is " + due;
      }
      note(name, args, due);
    }
    return lands == 0 || died.isEmpty() ? null : wholes(died.get(random.nextInt(died.size())), random.nextInt(lands));
  }

  /** What holds of the answers whatever the model says: shares are one together, and the pools are paid out. */
  private String wholes(int dead, int land) {
    HallModel.Fraction shares = HallModel.Fraction.ZERO;
    int out = 0;
    for (int person = -1; person < people; person++) {
      long top = hall.shareTop(dead, land, person);
      shares = shares.plus(HallModel.Fraction.of(top, hall.shareBottom(dead, land, person)));
      out += hall.gets(dead, land, person);
    }
    int left = 0;
    for (int each = 0; each < lands; each++) {
      int free = hall.free(dead, each);
      out -= each == land ? free : 0;
      left += hall.pool(dead, each) - free;
    }
    for (int debt = 0; debt < debts; debt++) {
      left -= owing.get(debt) == dead ? hall.paidOf(debt) : 0;
    }
    boolean hold = shares.equals(HallModel.Fraction.ONE) && out == 0 && left == 0 && hall.isConsistent();
    return hold ? null : "the wholes of " + dead + " by the land " + land + " do not hold";
  }

  private String nextOfFreeRun(int count) {
    boolean tells = random.nextInt(512) > count * 2 || random.nextInt(5) == 0;
    return tells ? pick(TELLING, TELLING_OFTEN) : pick(ASKING, ASKING_OFTEN);
  }

  private String nextOfFillingRun(int count) {
    return count < filling.size() ? filling.get(count) : pick(ASKING, ASKING_OFTEN);
  }

  private String pick(String[] names, int[] often) {
    int left = random.nextInt(Arrays.stream(often).sum());
    int at = 0;
    while (left >= often[at]) {
      left -= often[at];
      at++;
    }
    return names[at];
  }

  private interface Call {
    Object on();
  }

  private static Object answer(Call call) {
    try {
      return call.on();
    } catch (IndexOutOfBoundsException e) {
      // The machine's own exceptions for arrays are no answer.
      return e.getClass();
    } catch (NoSuchElementException | IllegalStateException | IllegalArgumentException | ArithmeticException e) {
      return e.getClass();
    }
  }

  private void note(String name, int[] args, Object due) {
    if (due instanceof Class) {
      return;
    }
    switch (name) {
      case "land" -> lands++;
      case "person" -> people++;
      case "marry" -> marriages++;
      case "thing" -> things++;
      case "debt" -> {
        debts++;
        owing.add(args[0]);
      }
      case "die" -> died.add(args[0]);
      case "will" -> wills++;
      default -> { }
    }
  }

  private int below(int count) {
    if (errs && random.nextInt(40) == 0) {
      return new int[] {-2, -1, count, count + 1, Integer.MIN_VALUE, Integer.MAX_VALUE}[random.nextInt(6)];
    }
    return random.nextInt(Math.max(1, count));
  }

  private int upTo(int least, int most) {
    if (errs && random.nextInt(40) == 0) {
      return new int[] {least - 1, least, most, most + 1, Integer.MIN_VALUE, Integer.MAX_VALUE}[random.nextInt(6)];
    }
    return least + random.nextInt(most - least + 1);
  }

  private int day() {
    return errs && random.nextInt(30) == 0 ? upTo(0, 99999) : upTo(0, spanOfDays);
  }

  private int value() {
    return errs && random.nextInt(30) == 0 ? upTo(1, 99999) : upTo(1, spanOfValues);
  }

  private int who() {
    return below(people);
  }

  private int chiefOrOther() {
    return chief < people && random.nextInt(3) > 0 ? chief : who();
  }

  private int whoOrNone() {
    return random.nextInt(3) == 0 ? -1 : who();
  }

  /** The youngest ones are often parents, so that lines become long. */
  private int parent() {
    return random.nextInt(5) == 0 ? -1 : random.nextBoolean() ? who() : Math.max(-1, people - 1 - random.nextInt(3));
  }

  private char sign(String signs) {
    return errs && random.nextInt(20) == 0 ? (char) random.nextInt(256) : signs.charAt(random.nextInt(signs.length()));
  }

  private int flag() {
    return random.nextInt(2);
  }

  private int[] args(String name) {
    return switch (name) {
      case "land" -> new int[] {sign("shfe"), upTo(0, 12), random.nextBoolean() ? 0 : upTo(0, Math.min(999, spanOfDays)),
          flag(), flag(), flag()};
      case "taxes" -> new int[] {below(lands), upTo(0, 99), upTo(0, 99)};
      case "person" -> new int[] {day(), parent(), parent()};
      case "die" -> new int[] {random.nextInt(4) == 0 ? chiefOrOther() : who(), day()};
      case "marry" -> new int[] {chiefOrOther(), who(), day()};
      case "part" -> new int[] {below(marriages), day()};
      case "live" -> new int[] {chiefOrOther(), below(lands), day()};
      case "setUnworthy" -> new int[] {who(), chiefOrOther(), flag()};
      case "renounce" -> new int[] {who(), chiefOrOther()};
      case "thing" -> new int[] {chiefOrOther(), value(), flag(), below(lands)};
      case "give" -> new int[] {below(things), who(), day()};
      case "debt" -> new int[] {chiefOrOther(), upTo(0, 3), value()};
      case "will" -> new int[] {chiefOrOther(), day(), flag()};
      case "revoke" -> new int[] {below(wills)};
      case "clause" -> clauseArgs();
      case "livedIn" -> new int[] {who(), day()};
      case "takes" -> new int[] {who(), chiefOrOther(), below(lands)};
      case "spouse", "pool", "free" -> new int[] {chiefOrOther(), below(lands)};
      case "shareTop", "shareBottom", "gets" ->
          new int[] {chiefOrOther(), below(lands), random.nextInt(8) == 0 ? -1 : who()};
      case "claims", "tax" -> new int[] {chiefOrOther(), below(lands), who()};
      case "governs" -> new int[] {below(things), chiefOrOther()};
      case "inForce" -> new int[] {chiefOrOther(), below(3)};
      case "paidOf" -> new int[] {below(debts)};
      default -> new int[0];
    };
  }

  private int[] clauseArgs() {
    char kind = sign("tmr");
    int number = kind == 't' ? below(things) : kind == 'r' ? upTo(1, 99) : value();
    return new int[] {below(wills), kind, number, who(), whoOrNone()};
  }

  private Object onHall(String name, int[] a) {
    return switch (name) {
      case "land" -> hall.land((char) a[0], a[1], a[2], a[3] == 1, a[4] == 1, a[5] == 1);
      case "taxes" -> hall.taxes(a[0], a[1], a[2]);
      case "person" -> hall.person(a[0], a[1], a[2]);
      case "die" -> hall.die(a[0], a[1]);
      case "marry" -> hall.marry(a[0], a[1], a[2]);
      case "part" -> hall.part(a[0], a[1]);
      case "live" -> hall.live(a[0], a[1], a[2]);
      case "setUnworthy" -> hall.setUnworthy(a[0], a[1], a[2] == 1);
      case "renounce" -> hall.renounce(a[0], a[1]);
      case "thing" -> hall.thing(a[0], a[1], a[2] == 1, a[3]);
      case "give" -> hall.give(a[0], a[1], a[2]);
      case "debt" -> hall.debt(a[0], a[1], a[2]);
      case "will" -> hall.will(a[0], a[1], a[2] == 1);
      case "revoke" -> hall.revoke(a[0]);
      case "clause" -> hall.clause(a[0], (char) a[1], a[2], a[3], a[4]);
      case "livedIn" -> hall.livedIn(a[0], a[1]);
      case "takes" -> hall.takes(a[0], a[1], a[2]);
      case "spouse" -> hall.spouse(a[0], a[1]);
      case "shareTop" -> hall.shareTop(a[0], a[1], a[2]);
      case "shareBottom" -> hall.shareBottom(a[0], a[1], a[2]);
      case "governs" -> hall.governs(a[0], a[1]);
      case "inForce" -> hall.inForce(a[0], a[1]);
      case "pool" -> hall.pool(a[0], a[1]);
      case "free" -> hall.free(a[0], a[1]);
      case "paidOf" -> hall.paidOf(a[0]);
      case "claims" -> hall.claims(a[0], a[1], a[2]);
      case "gets" -> hall.gets(a[0], a[1], a[2]);
      case "tax" -> hall.tax(a[0], a[1], a[2]);
      case "paidShare" -> hall.paidShare();
      case "meanValue" -> hall.meanValue();
      default -> hall.isConsistent();
    };
  }

  private Object onModel(String name, int[] a) {
    return switch (name) {
      case "land" -> model.land((char) a[0], a[1], a[2], a[3] == 1, a[4] == 1, a[5] == 1);
      case "taxes" -> model.taxes(a[0], a[1], a[2]);
      case "person" -> model.person(a[0], a[1], a[2]);
      case "die" -> model.die(a[0], a[1]);
      case "marry" -> model.marry(a[0], a[1], a[2]);
      case "part" -> model.part(a[0], a[1]);
      case "live" -> model.live(a[0], a[1], a[2]);
      case "setUnworthy" -> model.setUnworthy(a[0], a[1], a[2] == 1);
      case "renounce" -> model.renounce(a[0], a[1]);
      case "thing" -> model.thing(a[0], a[1], a[2] == 1, a[3]);
      case "give" -> model.give(a[0], a[1], a[2]);
      case "debt" -> model.debt(a[0], a[1], a[2]);
      case "will" -> model.will(a[0], a[1], a[2] == 1);
      case "revoke" -> model.revoke(a[0]);
      case "clause" -> model.clause(a[0], (char) a[1], a[2], a[3], a[4]);
      case "livedIn" -> model.livedIn(a[0], a[1]);
      case "takes" -> model.takes(a[0], a[1], a[2]);
      case "spouse" -> model.spouse(a[0], a[1]);
      case "shareTop" -> model.shareTop(a[0], a[1], a[2]);
      case "shareBottom" -> model.shareBottom(a[0], a[1], a[2]);
      case "governs" -> model.governs(a[0], a[1]);
      case "inForce" -> model.inForce(a[0], a[1]);
      case "pool" -> model.pool(a[0], a[1]);
      case "free" -> model.free(a[0], a[1]);
      case "paidOf" -> model.paidOf(a[0]);
      case "claims" -> model.claims(a[0], a[1], a[2]);
      case "gets" -> model.gets(a[0], a[1], a[2]);
      case "tax" -> model.tax(a[0], a[1], a[2]);
      case "paidShare" -> model.paidShare();
      case "meanValue" -> model.meanValue();
      default -> model.isConsistent();
    };
  }
}
