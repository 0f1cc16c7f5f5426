import java.util.NoSuchElementException;

/** What becomes of the things of the dead under the laws of several lands. */
public final class Probatehall {
  private static final int MOST_LANDS = 4;
  private static final int MOST_PEOPLE = 16;
  private static final int MOST_MARRIAGES = 20;
  private static final int MOST_STAYS = 60;
  private static final int MOST_THINGS = 20;
  private static final int MOST_DEBTS = 20;
  private static final int MOST_WILLS = 12;
  private static final int MOST_CLAUSES = 40;
  private static final int LAST_DAY = 99999;
  private static final int MOST_VALUE = 99999;
  private static final int MOST_PARTS = 99;
  private static final int MOST_PERCENT = 99;
  private static final int MOST_SURVIVAL = 999;
  private static final int LAST_RANK = 3;
  private static final int TWELFTHS = 12;
  private static final int DAYS_UNBORN = 300;
  private static final int NONE = -1;

  /** More than the greatest divisor of any two long numbers needs. */
  private static final int MOST_STEPS = 200;

  private static final char BY_STOCKS = 's';
  private static final char BY_HEADS = 'h';
  private static final char BY_FRACTIONS = 'f';
  private static final char BY_ELDEST = 'e';
  private static final char ON_THING = 't';
  private static final char ON_SUM = 'm';
  private static final char ON_REST = 'r';

  /** The row of the land itself, behind those of all people. */
  private static final int LAND_ROW = MOST_PEOPLE;
  private static final int TAKING_ROWS = MOST_PEOPLE + 1;

  private final Book book;
  private final Shares shares;
  private final Estate estate;

  public Probatehall() {
    book = new Book();
    shares = new Shares();
    estate = new Estate();
  }

  // ---- lands and people

  public int land(char system, int forced, int survival, boolean marriageRevokes, boolean sendsLand,
      boolean sendsMovables) throws IllegalArgumentException, IllegalStateException {
    boolean inRange = isWithin(forced, 0, TWELFTHS) && isWithin(survival, 0, MOST_SURVIVAL);
    if (!isSystem(system) || !inRange) {
      throw new IllegalArgumentException("no such system, or a number out of range");
    }
    if (book.lands.count >= MOST_LANDS) {
      throw new IllegalStateException("too many lands");
    }
    return book.lands.add(system, forced, survival, marriageRevokes, sendsLand, sendsMovables);
  }

  public int taxes(int land, int near, int far) throws IndexOutOfBoundsException, IllegalArgumentException {
    needLand(land);
    needWithin(near, 0, MOST_PERCENT);
    needWithin(far, 0, MOST_PERCENT);
    int before = 100 * book.lands.near[land] + book.lands.far[land];
    book.lands.near[land] = near;
    book.lands.far[land] = far;
    return before;
  }

  public int person(int born, int first, int second)
      throws IllegalArgumentException, IndexOutOfBoundsException, IllegalStateException {
    needWithin(born, 0, LAST_DAY);
    if (first != NONE && first == second) {
      throw new IllegalArgumentException("both parents are the same person");
    }
    needPersonOrNone(first);
    needPersonOrNone(second);
    if (book.people.count >= MOST_PEOPLE) {
      throw new IllegalStateException("too many people");
    }
    return book.people.add(born, first, second);
  }

  public int die(int person, int day) throws IndexOutOfBoundsException, IllegalArgumentException {
    needPerson(person);
    needWithin(day, book.people.born[person], LAST_DAY);
    int before = book.people.died[person];
    book.people.died[person] = day;
    return before;
  }

  public int marry(int one, int other, int day)
      throws IndexOutOfBoundsException, IllegalArgumentException, IllegalStateException {
    needPerson(one);
    needPerson(other);
    if (one == other) {
      throw new IllegalArgumentException("both are the same");
    }
    needWithin(day, 0, LAST_DAY);
    if (book.marriages.count >= MOST_MARRIAGES) {
      throw new IllegalStateException("too many marriages");
    }
    return book.marriages.add(one, other, day);
  }

  public int part(int marriage, int day) throws IndexOutOfBoundsException, IllegalArgumentException {
    if (marriage < 0 || marriage >= book.marriages.count) {
      throw new IndexOutOfBoundsException("no such marriage");
    }
    needWithin(day, book.marriages.day[marriage], LAST_DAY);
    int before = book.marriages.parted[marriage];
    book.marriages.parted[marriage] = day;
    return before;
  }

  public int live(int person, int land, int day)
      throws IndexOutOfBoundsException, IllegalArgumentException, IllegalStateException {
    needPerson(person);
    needLand(land);
    needWithin(day, 0, LAST_DAY);
    if (book.stays.count >= MOST_STAYS) {
      throw new IllegalStateException("too many days");
    }
    int before = book.stays.landOn(person, day);
    book.stays.add(person, land, day);
    return before;
  }

  public boolean setUnworthy(int person, int dead, boolean unworthy) throws IndexOutOfBoundsException {
    needPerson(person);
    needPerson(dead);
    int bit = 1 << dead;
    int rows = book.people.unworthyOf[person];
    book.people.unworthyOf[person] = unworthy ? rows | bit : rows & ~bit;
    return (rows & bit) != 0;
  }

  public boolean renounce(int person, int dead) throws IndexOutOfBoundsException, NoSuchElementException {
    needPerson(person);
    needPerson(dead);
    needDeath(dead);
    int bit = 1 << dead;
    int rows = book.people.renouncedOf[person];
    book.people.renouncedOf[person] = rows | bit;
    return (rows & bit) == 0;
  }

  // ---- things, debts and wills

  public int thing(int owner, int value, boolean isLand, int land)
      throws IndexOutOfBoundsException, IllegalArgumentException, IllegalStateException {
    needPerson(owner);
    needLand(land);
    needWithin(value, 1, MOST_VALUE);
    if (book.things.count >= MOST_THINGS) {
      throw new IllegalStateException("too many things");
    }
    return book.things.add(owner, value, isLand, land);
  }

  public int give(int thing, int to, int day) throws IndexOutOfBoundsException, IllegalArgumentException {
    needThing(thing);
    needPerson(to);
    needWithin(day, 0, LAST_DAY);
    if (to == book.things.owner[thing]) {
      throw new IllegalArgumentException("this is the owner who was told");
    }
    int before = book.things.givenTo[thing];
    book.things.givenTo[thing] = to;
    book.things.givenOn[thing] = day;
    return before;
  }

  public int debt(int person, int rank, int amount)
      throws IndexOutOfBoundsException, IllegalArgumentException, IllegalStateException {
    needPerson(person);
    needWithin(rank, 0, LAST_RANK);
    needWithin(amount, 1, MOST_VALUE);
    if (book.debts.count >= MOST_DEBTS) {
      throw new IllegalStateException("too many debts");
    }
    return book.debts.add(person, rank, amount);
  }

  public int will(int person, int day, boolean isWhole)
      throws IndexOutOfBoundsException, IllegalArgumentException, IllegalStateException {
    needPerson(person);
    needWithin(day, 0, LAST_DAY);
    if (book.wills.count >= MOST_WILLS) {
      throw new IllegalStateException("too many wills");
    }
    return book.wills.add(person, day, isWhole);
  }

  public boolean revoke(int will) throws IndexOutOfBoundsException {
    needWill(will);
    boolean stood = !book.wills.revoked[will];
    book.wills.revoked[will] = true;
    return stood;
  }

  public int clause(int will, char kind, int number, int to, int instead)
      throws IndexOutOfBoundsException, IllegalArgumentException, IllegalStateException {
    needWill(will);
    needPerson(to);
    needPersonOrNone(instead);
    if (kind == ON_THING) {
      needThing(number);
    } else if (kind == ON_SUM) {
      needWithin(number, 1, MOST_VALUE);
    } else if (kind == ON_REST) {
      needWithin(number, 1, MOST_PARTS);
    } else {
      throw new IllegalArgumentException("no such kind");
    }
    if (book.wills.clauseCount >= MOST_CLAUSES) {
      throw new IllegalStateException("too many clauses");
    }
    return book.wills.addClause(will, kind, number, to, instead);
  }

  // ---- what is found

  public int livedIn(int person, int day) throws IndexOutOfBoundsException {
    needPerson(person);
    return book.stays.landOn(person, day);
  }

  public boolean takes(int person, int dead, int land) throws IndexOutOfBoundsException, NoSuchElementException {
    needPerson(person);
    needPerson(dead);
    needLand(land);
    needDeath(dead);
    return book.people.mayTake(person, dead, book.lands.survival[land]);
  }

  public int spouse(int dead, int land) throws IndexOutOfBoundsException, NoSuchElementException {
    needDeadAndLand(dead, land);
    shares.find(book, dead, land);
    return shares.spouse;
  }

  public long shareTop(int dead, int land, int person) throws IndexOutOfBoundsException, NoSuchElementException {
    int row = needTakingRow(dead, land, person);
    shares.find(book, dead, land);
    return shares.top[row];
  }

  public long shareBottom(int dead, int land, int person) throws IndexOutOfBoundsException, NoSuchElementException {
    int row = needTakingRow(dead, land, person);
    shares.find(book, dead, land);
    return shares.bottom[row];
  }

  public int governs(int thing, int dead) throws IndexOutOfBoundsException, NoSuchElementException {
    needThing(thing);
    needPerson(dead);
    needDeath(dead);
    estate.open(book, dead);
    return estate.law[thing];
  }

  public int inForce(int dead, int index) throws IndexOutOfBoundsException, NoSuchElementException {
    needPerson(dead);
    if (index < 0) {
      throw new IndexOutOfBoundsException("the index is less than 0");
    }
    needDeath(dead);
    estate.open(book, dead);
    return index < estate.standingCount ? estate.standing[index] : NONE;
  }

  public int pool(int dead, int land) throws IndexOutOfBoundsException, NoSuchElementException {
    needDeadAndLand(dead, land);
    estate.open(book, dead);
    return (int) estate.pools[land];
  }

  public int free(int dead, int land) throws IndexOutOfBoundsException, NoSuchElementException {
    needDeadAndLand(dead, land);
    estate.open(book, dead);
    return (int) estate.unowed[land];
  }

  public int paidOf(int debt) throws IndexOutOfBoundsException, NoSuchElementException {
    if (debt < 0 || debt >= book.debts.count) {
      throw new IndexOutOfBoundsException("no such debt");
    }
    int dead = book.debts.person[debt];
    needDeath(dead);
    estate.open(book, dead);
    return (int) estate.paid[debt];
  }

  public int claims(int dead, int land, int person) throws IndexOutOfBoundsException, NoSuchElementException {
    needPerson(person);
    needDeadAndLand(dead, land);
    settle(dead, land);
    return (int) estate.claim[person];
  }

  public int gets(int dead, int land, int person) throws IndexOutOfBoundsException, NoSuchElementException {
    int row = needTakingRow(dead, land, person);
    settle(dead, land);
    return (int) estate.got[row];
  }

  public int tax(int dead, int land, int person) throws IndexOutOfBoundsException, NoSuchElementException {
    needPerson(person);
    needDeadAndLand(dead, land);
    settle(dead, land);
    int percent = shares.isNear(person) ? book.lands.near[land] : book.lands.far[land];
    return (int) (estate.got[person] * percent / 100);
  }

  // ---- figures

  public float paidShare() throws ArithmeticException {
    long paid = 0;
    long owed = 0;
    for (int dead = 0; dead < book.people.count; dead++) {
      if (book.people.died[dead] >= 0) {
        estate.open(book, dead);
        paid += estate.paidInAll;
        owed += estate.owedInAll;
      }
    }
    if (owed <= 0) {
      throw new ArithmeticException("no debts of the dead");
    }
    return (float) paid / (float) owed;
  }

  public double meanValue() throws ArithmeticException {
    int count = book.things.count;
    if (count <= 0) {
      throw new ArithmeticException("no things");
    }
    long sum = 0;
    for (int thing = 0; thing < count; thing++) {
      sum += book.things.value[thing];
    }
    return (double) sum / (double) count;
  }

  public boolean isConsistent() {
    for (int dead = 0; dead < book.people.count; dead++) {
      if (book.people.died[dead] >= 0 && !isSettledWhole(dead)) {
        return false;
      }
    }
    return true;
  }

  private boolean isSettledWhole(int dead) {
    estate.open(book, dead);
    for (int land = 0; land < book.lands.count; land++) {
      shares.find(book, dead, land);
      estate.settle(book, shares, land);
      if (!shares.areOneTogether() || estate.gotInAll() != estate.unowed[land]) {
        return false;
      }
    }
    return true;
  }

  private void settle(int dead, int land) {
    estate.open(book, dead);
    shares.find(book, dead, land);
    estate.settle(book, shares, land);
  }

  private static boolean isSystem(char system) {
    return system == BY_STOCKS || system == BY_HEADS || system == BY_FRACTIONS || system == BY_ELDEST;
  }

  private static boolean isWithin(int number, int least, int most) {
    return number >= least && number <= most;
  }

  private static void needWithin(int number, int least, int most) {
    if (!isWithin(number, least, most)) {
      throw new IllegalArgumentException("a number out of range");
    }
  }

  private void needLand(int land) {
    if (land < 0 || land >= book.lands.count) {
      throw new IndexOutOfBoundsException("no such land");
    }
  }

  private void needPerson(int person) {
    if (!book.people.isTold(person)) {
      throw new IndexOutOfBoundsException("no such person");
    }
  }

  private void needPersonOrNone(int person) {
    if (person != NONE) {
      needPerson(person);
    }
  }

  private void needThing(int thing) {
    if (thing < 0 || thing >= book.things.count) {
      throw new IndexOutOfBoundsException("no such thing");
    }
  }

  private void needWill(int will) {
    if (will < 0 || will >= book.wills.count) {
      throw new IndexOutOfBoundsException("no such will");
    }
  }

  private void needDeath(int person) {
    if (book.people.died[person] < 0) {
      throw new NoSuchElementException("this person has not died");
    }
  }

  private void needDeadAndLand(int dead, int land) {
    needPerson(dead);
    needLand(land);
    needDeath(dead);
  }

  /** The row of a person, or of the land for -1, once all that is asked about is there. */
  private int needTakingRow(int dead, int land, int person) {
    needPersonOrNone(person);
    needDeadAndLand(dead, land);
    return person == NONE ? LAND_ROW : person;
  }

  /** All that was told. */
  private static final class Book {
    final Lands lands = new Lands();
    final People people = new People();
    final Marriages marriages = new Marriages();
    final Stays stays = new Stays();
    final Things things = new Things();
    final Debts debts = new Debts();
    final Wills wills = new Wills();
  }

  private static final class Lands {
    int count;
    final char[] system = new char[MOST_LANDS];
    final int[] forced = new int[MOST_LANDS];
    final int[] survival = new int[MOST_LANDS];
    final boolean[] marriageRevokes = new boolean[MOST_LANDS];
    final boolean[] sendsLand = new boolean[MOST_LANDS];
    final boolean[] sendsMovables = new boolean[MOST_LANDS];
    final int[] near = new int[MOST_LANDS];
    final int[] far = new int[MOST_LANDS];

    int add(char itsSystem, int twelfths, int days, boolean revokes, boolean landSent, boolean movablesSent) {
      system[count] = itsSystem;
      forced[count] = twelfths;
      survival[count] = days;
      marriageRevokes[count] = revokes;
      sendsLand[count] = landSent;
      sendsMovables[count] = movablesSent;
      return count++;
    }
  }

  /** Parents always have lesser numbers than their children. */
  private static final class People {
    int count;
    final int[] born = new int[MOST_PEOPLE];
    final int[] first = new int[MOST_PEOPLE];
    final int[] second = new int[MOST_PEOPLE];
    final int[] died = new int[MOST_PEOPLE];
    /** One bit for each dead one. */
    final int[] unworthyOf = new int[MOST_PEOPLE];
    final int[] renouncedOf = new int[MOST_PEOPLE];

    int add(int day, int parent, int otherParent) {
      born[count] = day;
      first[count] = parent;
      second[count] = otherParent;
      died[count] = NONE;
      return count++;
    }

    boolean isTold(int person) {
      return person >= 0 && person < count;
    }

    boolean isChild(int child, int parent) {
      return first[child] == parent || second[child] == parent;
    }

    boolean mayTake(int person, int dead, int survival) {
      int bit = 1 << dead;
      boolean isBornInTime = born[person] <= died[dead] + DAYS_UNBORN;
      boolean survives = died[person] < 0 || died[person] > died[dead] + survival;
      return isBornInTime && survives && ((unworthyOf[person] | renouncedOf[person]) & bit) == 0;
    }
  }

  private static final class Marriages {
    int count;
    final int[] one = new int[MOST_MARRIAGES];
    final int[] other = new int[MOST_MARRIAGES];
    final int[] day = new int[MOST_MARRIAGES];
    final int[] parted = new int[MOST_MARRIAGES];

    int add(int person, int spouse, int from) {
      one[count] = person;
      other[count] = spouse;
      day[count] = from;
      parted[count] = NONE;
      return count++;
    }

    private boolean isOf(int marriage, int person) {
      return one[marriage] == person || other[marriage] == person;
    }

    /** The one to whom a person was married on a day by the latest marriage, or -1. */
    int marriedTo(int person, int when) {
      int latest = NONE;
      for (int marriage = 0; marriage < count; marriage++) {
        boolean isOn = day[marriage] <= when && (parted[marriage] < 0 || parted[marriage] > when);
        if (isOn && isOf(marriage, person) && (latest < 0 || day[marriage] >= day[latest])) {
          latest = marriage;
        }
      }
      if (latest < 0) {
        return NONE;
      }
      return one[latest] == person ? other[latest] : one[latest];
    }

    /** The day of a person's last marriage up to a day, parted or not, or -1. */
    int lastDay(int person, int when) {
      int last = NONE;
      for (int marriage = 0; marriage < count; marriage++) {
        if (isOf(marriage, person) && day[marriage] <= when) {
          last = Math.max(last, day[marriage]);
        }
      }
      return last;
    }
  }

  private static final class Stays {
    int count;
    final int[] person = new int[MOST_STAYS];
    final int[] place = new int[MOST_STAYS];
    final int[] from = new int[MOST_STAYS];

    void add(int who, int where, int day) {
      person[count] = who;
      place[count] = where;
      from[count] = day;
      count++;
    }

    int landOn(int who, int day) {
      int where = 0;
      int since = NONE;
      for (int stay = 0; stay < count; stay++) {
        if (person[stay] == who && from[stay] <= day && from[stay] >= since) {
          where = place[stay];
          since = from[stay];
        }
      }
      return where;
    }
  }

  private static final class Things {
    int count;
    final int[] owner = new int[MOST_THINGS];
    final int[] value = new int[MOST_THINGS];
    final boolean[] isLand = new boolean[MOST_THINGS];
    final int[] lies = new int[MOST_THINGS];
    final int[] givenTo = new int[MOST_THINGS];
    final int[] givenOn = new int[MOST_THINGS];

    int add(int person, int worth, boolean isOfLand, int where) {
      owner[count] = person;
      value[count] = worth;
      isLand[count] = isOfLand;
      lies[count] = where;
      givenTo[count] = NONE;
      givenOn[count] = NONE;
      return count++;
    }

    /** On the very day of a gift the thing is nobody's, so neither side owns it then. */
    boolean isOwnedAtDeath(int thing, People people, int dead) {
      int giver = owner[thing];
      boolean isGiven = givenTo[thing] >= 0 && (people.died[giver] < 0 || givenOn[thing] <= people.died[giver]);
      if (!isGiven) {
        return giver == dead;
      }
      return givenTo[thing] == dead && people.died[dead] > givenOn[thing];
    }
  }

  private static final class Debts {
    int count;
    final int[] person = new int[MOST_DEBTS];
    final int[] rank = new int[MOST_DEBTS];
    final int[] amount = new int[MOST_DEBTS];

    int add(int who, int level, int sum) {
      person[count] = who;
      rank[count] = level;
      amount[count] = sum;
      return count++;
    }
  }

  /** Wills, and the clauses of all of them as they were told. */
  private static final class Wills {
    int count;
    final int[] person = new int[MOST_WILLS];
    final int[] day = new int[MOST_WILLS];
    final boolean[] isWhole = new boolean[MOST_WILLS];
    final boolean[] revoked = new boolean[MOST_WILLS];
    int clauseCount;
    /** The will in which each clause stands. */
    final int[] clauseIn = new int[MOST_CLAUSES];
    final char[] kind = new char[MOST_CLAUSES];
    final int[] number = new int[MOST_CLAUSES];
    final int[] to = new int[MOST_CLAUSES];
    final int[] instead = new int[MOST_CLAUSES];

    int add(int who, int when, boolean whole) {
      person[count] = who;
      day[count] = when;
      isWhole[count] = whole;
      return count++;
    }

    boolean isBehind(int will, int other) {
      return day[will] > day[other] || day[will] == day[other] && will > other;
    }

    int addClause(int will, char what, int howMuch, int who, int other) {
      clauseIn[clauseCount] = will;
      kind[clauseCount] = what;
      number[clauseCount] = howMuch;
      to[clauseCount] = who;
      instead[clauseCount] = other;
      clauseCount++;
      return clauseCount;
    }
  }

  /** Sharing to the last coin: set the weights, spread an amount, read the parts. */
  private static final class Coins {
    final long[] weights = new long[MOST_CLAUSES];
    final long[] parts = new long[MOST_CLAUSES];
    private final long[] remainders = new long[MOST_CLAUSES];

    void spread(long amount, int rows) {
      int used = Math.min(rows, MOST_CLAUSES);
      long sum = total(used);
      long left = amount;
      for (int row = 0; row < used; row++) {
        parts[row] = 0;
        remainders[row] = NONE;
        if (sum > 0 && weights[row] > 0) {
          long product = amount * weights[row];
          parts[row] = product / sum;
          remainders[row] = product % sum;
          left -= parts[row];
        }
      }
      for (int coin = 0; coin < used && left > 0; coin++) {
        int row = greatestRemainder(used);
        parts[row]++;
        remainders[row] = NONE;
        left--;
      }
    }

    long total(int rows) {
      long sum = 0;
      for (int row = 0; row < rows && row < MOST_CLAUSES; row++) {
        sum += weights[row];
      }
      return sum;
    }

    private int greatestRemainder(int rows) {
      int greatest = 0;
      for (int row = 1; row < rows; row++) {
        if (remainders[row] > remainders[greatest]) {
          greatest = row;
        }
      }
      return greatest;
    }
  }

  /** The shares without a will from one dead one by the law of one land, in lowest terms. */
  private static final class Shares {
    final long[] top = new long[TAKING_ROWS];
    final long[] bottom = new long[TAKING_ROWS];
    int spouse;
    private int descendants;
    private final boolean[] taking = new boolean[MOST_PEOPLE];
    private final boolean[] hasLine = new boolean[MOST_PEOPLE];

    void find(Book book, int dead, int land) {
      People people = book.people;
      for (int row = 0; row < TAKING_ROWS; row++) {
        clear(row);
      }
      findTakers(people, dead, book.lands.survival[land]);
      findLines(people);
      descendants = descendantsOf(people, dead);
      int married = book.marriages.marriedTo(dead, people.died[dead]);
      spouse = married >= 0 && taking[married] ? married : NONE;
      char system = book.lands.system[land];
      if (system == BY_STOCKS) {
        shareByStocks(people, dead);
      } else if (system == BY_HEADS) {
        shareByHeads(people, dead);
      } else if (system == BY_FRACTIONS) {
        shareByFractions(people, dead);
      } else {
        shareByEldest(people, dead);
      }
      leaveRestToLand();
    }

    /** Whether somebody is a descendant or the spouse. */
    boolean isNear(int person) {
      return person == spouse || isIn(descendants, person);
    }

    boolean areOneTogether() {
      long sumTop = 0;
      long sumBottom = 1;
      for (int row = 0; row < TAKING_ROWS; row++) {
        sumTop = sumTop * bottom[row] + top[row] * sumBottom;
        sumBottom = sumBottom * bottom[row];
        long divisor = greatestDivisor(sumTop, sumBottom);
        sumTop /= divisor;
        sumBottom /= divisor;
      }
      return sumTop == 1 && sumBottom == 1;
    }

    /** A number that every lower number divides. */
    long commonBottom() {
      long common = 1;
      for (int row = 0; row < TAKING_ROWS; row++) {
        common = common / greatestDivisor(common, bottom[row]) * bottom[row];
      }
      return common;
    }

    private void findTakers(People people, int dead, int survival) {
      for (int person = 0; person < people.count; person++) {
        taking[person] = people.mayTake(person, dead, survival);
      }
    }

    private void findLines(People people) {
      for (int person = people.count - 1; person >= 0; person--) {
        hasLine[person] = taking[person] || countLines(people, person) > 0;
      }
    }

    private int countLines(People people, int parent) {
      int lines = 0;
      for (int child = parent + 1; child < people.count; child++) {
        if (people.isChild(child, parent) && hasLine[child]) {
          lines++;
        }
      }
      return lines;
    }

    private static int descendantsOf(People people, int dead) {
      int found = 0;
      for (int person = dead + 1; person < people.count; person++) {
        if (hasParentIn(people, person, found | 1 << dead)) {
          found |= 1 << person;
        }
      }
      return found;
    }

    /** All who have a parent in a set; a set has one bit for each person. */
    private static int childrenOf(People people, int parents) {
      int children = 0;
      for (int person = 0; person < people.count; person++) {
        if (hasParentIn(people, person, parents)) {
          children |= 1 << person;
        }
      }
      return children;
    }

    private static boolean hasParentIn(People people, int person, int set) {
      return isIn(set, people.first[person]) || isIn(set, people.second[person]);
    }

    private static boolean isIn(int set, int person) {
      return person >= 0 && (set >> person & 1) != 0;
    }

    private static int parentsOf(People people, int person) {
      int parents = 0;
      if (people.first[person] >= 0) {
        parents |= 1 << people.first[person];
      }
      if (people.second[person] >= 0) {
        parents |= 1 << people.second[person];
      }
      return parents;
    }

    private int takersOf(People people, int set) {
      int takers = 0;
      for (int person = 0; person < people.count; person++) {
        if (isIn(set, person) && taking[person]) {
          takers |= 1 << person;
        }
      }
      return takers;
    }

    private void shareByStocks(People people, int dead) {
      int spouseBottom;
      // The dead one never takes: a line of this one is a line of a child. Without one it is left aside by itself.
      if (hasLine[dead]) {
        spouseBottom = 3;
        addShare(dead, spouse >= 0 ? 2 : 1, spouse >= 0 ? 3 : 1);
      } else {
        int parents = 0;
        for (int person = 0; person < dead; person++) {
          parents += people.isChild(dead, person) && hasLine[person] ? 1 : 0;
        }
        spouseBottom = parents > 0 ? 2 : 1;
        for (int person = 0; person < dead; person++) {
          if (people.isChild(dead, person) && hasLine[person]) {
            addShare(person, 1, parents * (spouse >= 0 ? 2 : 1));
          }
        }
      }
      passDown(people);
      if (spouse >= 0) {
        addShare(spouse, 1, spouseBottom);
      }
    }

    /** Parents come ahead of their children, so each part goes down one step when all above it has come. */
    private void passDown(People people) {
      for (int person = 0; person < people.count; person++) {
        int lines = top[person] > 0 && !taking[person] ? countLines(people, person) : 0;
        if (lines > 0) {
          for (int child = person + 1; child < people.count; child++) {
            if (people.isChild(child, person) && hasLine[child]) {
              addShare(child, top[person], bottom[person] * lines);
            }
          }
          clear(person);
        }
      }
    }

    private void shareByHeads(People people, int dead) {
      int heads = nearestTakers(people, dead);
      int parents = parentsOf(people, dead);
      if (heads == 0) {
        heads = takersOf(people, parents);
      }
      if (heads == 0) {
        heads = takersOf(people, childrenOf(people, parents));
      }
      if (spouse >= 0) {
        heads |= 1 << spouse;
      }
      for (int person = 0; person < people.count; person++) {
        if (isIn(heads, person)) {
          addShare(person, 1, Integer.bitCount(heads));
        }
      }
    }

    private int nearestTakers(People people, int dead) {
      int generation = 1 << dead;
      int takers = 0;
      for (int step = 0; step < MOST_PEOPLE && takers == 0 && generation != 0; step++) {
        generation = childrenOf(people, generation);
        takers = takersOf(people, generation);
      }
      return takers;
    }

    private void shareByFractions(People people, int dead) {
      int parents = takersOf(people, parentsOf(people, dead));
      int children = takersOf(people, childrenOf(people, 1 << dead));
      int sum = (spouse >= 0 ? 3 : 0) + 2 * Integer.bitCount(parents) + 4 * Integer.bitCount(children);
      for (int person = 0; person < people.count; person++) {
        int twelfths = person == spouse ? 3 : 0;
        twelfths += isIn(parents, person) ? 2 : 0;
        twelfths += isIn(children, person) ? 4 : 0;
        addShare(person, twelfths, sum);
      }
    }

    private void shareByEldest(People people, int dead) {
      int heir = dead;
      for (int step = 0; step < MOST_PEOPLE && heir >= 0 && !taking[heir]; step++) {
        heir = eldestLine(people, heir);
      }
      if (heir < 0) {
        heir = spouse;
      }
      if (heir >= 0) {
        addShare(heir, 1, 1);
      }
    }

    private int eldestLine(People people, int parent) {
      int eldest = NONE;
      for (int child = parent + 1; child < people.count; child++) {
        if (people.isChild(child, parent) && hasLine[child]
            && (eldest < 0 || people.born[child] < people.born[eldest])) {
          eldest = child;
        }
      }
      return eldest;
    }

    private void leaveRestToLand() {
      long restTop = 1;
      long restBottom = 1;
      for (int row = 0; row < MOST_PEOPLE; row++) {
        restTop = restTop * bottom[row] - top[row] * restBottom;
        restBottom = restBottom * bottom[row];
        long divisor = greatestDivisor(restTop, restBottom);
        restTop /= divisor;
        restBottom /= divisor;
      }
      addShare(LAND_ROW, restTop, restBottom);
    }

    private void clear(int row) {
      top[row] = 0;
      bottom[row] = 1;
    }

    private void addShare(int row, long moreTop, long moreBottom) {
      if (moreTop <= 0 || moreBottom <= 0) {
        return;
      }
      long sumTop = top[row] * moreBottom + moreTop * bottom[row];
      long sumBottom = bottom[row] * moreBottom;
      long divisor = greatestDivisor(sumTop, sumBottom);
      top[row] = sumTop / divisor;
      bottom[row] = sumBottom / divisor;
    }

    /** Of numbers not below 0; at least 1, so that it can divide whatever comes. */
    private static long greatestDivisor(long one, long other) {
      long greater = one;
      long lesser = other;
      for (int step = 0; step < MOST_STEPS && lesser > 0; step++) {
        long rest = greater % lesser;
        greater = lesser;
        lesser = rest;
      }
      return greater > 0 ? greater : 1;
    }
  }

  /** What one dead one leaves: pools, debts paid, wills in force, and who gets what out of one pool. */
  private static final class Estate {
    /** The land that governs each thing, or -1 if the dead one did not own it. */
    final int[] law = new int[MOST_THINGS];
    final long[] pools = new long[MOST_LANDS];
    final long[] unowed = new long[MOST_LANDS];
    final long[] paid = new long[MOST_DEBTS];
    long paidInAll;
    long owedInAll;
    final int[] standing = new int[MOST_WILLS];
    int standingCount;
    final long[] got = new long[TAKING_ROWS];
    final long[] claim = new long[TAKING_ROWS];
    private final Coins coins = new Coins();
    private int dead;
    private int home;
    /** The clauses that do not fail, as they are gone through, and who has each. */
    private final int[] good = new int[MOST_CLAUSES];
    private final int[] holder = new int[MOST_CLAUSES];
    private int goodCount;
    private final int[] thingTo = new int[MOST_THINGS];
    private int restWill;

    void open(Book book, int person) {
      dead = person;
      home = book.stays.landOn(person, book.people.died[person]);
      fillPools(book);
      payDebts(book.debts);
      bearDebts();
      findStandingWills(book);
    }

    /** Wants the estate open, and the shares by the law of this land. */
    void settle(Book book, Shares shares, int land) {
      for (int row = 0; row < TAKING_ROWS; row++) {
        got[row] = 0;
        claim[row] = 0;
      }
      readClauses(book);
      long left = unowed[land] - payThings(book.things, land);
      if (land == home) {
        left -= paySums(book.wills, left);
      }
      if (restWill >= 0) {
        payRestByParts(book.wills, left);
      } else {
        payRestByShares(shares, left);
      }
      if (standingCount > 0) {
        findClaims(shares, unowed[land] * book.lands.forced[land]);
        serveClaims();
      }
    }

    long gotInAll() {
      long sum = 0;
      for (int row = 0; row < TAKING_ROWS; row++) {
        sum += got[row];
      }
      return sum;
    }

    private void fillPools(Book book) {
      for (int land = 0; land < MOST_LANDS; land++) {
        pools[land] = 0;
      }
      for (int thing = 0; thing < book.things.count; thing++) {
        law[thing] = NONE;
        if (book.things.isOwnedAtDeath(thing, book.people, dead)) {
          law[thing] = governing(book.lands, book.things, thing);
          pools[law[thing]] += book.things.value[thing];
        }
      }
    }

    private int governing(Lands lands, Things things, int thing) {
      int lies = things.lies[thing];
      if (things.isLand[thing]) {
        return lands.sendsLand[lies] ? home : lies;
      }
      return lands.sendsMovables[home] ? lies : home;
    }

    private void payDebts(Debts debts) {
      long left = 0;
      for (int land = 0; land < MOST_LANDS; land++) {
        left += pools[land];
      }
      for (int debt = 0; debt < debts.count; debt++) {
        paid[debt] = 0;
      }
      paidInAll = 0;
      owedInAll = 0;
      for (int rank = 0; rank <= LAST_RANK; rank++) {
        left -= payRank(debts, rank, left);
      }
    }

    private long payRank(Debts debts, int rank, long left) {
      for (int debt = 0; debt < debts.count; debt++) {
        boolean isDue = debts.person[debt] == dead && debts.rank[debt] == rank;
        coins.weights[debt] = isDue ? debts.amount[debt] : 0;
      }
      long owed = coins.total(debts.count);
      long paying = Math.min(left, owed);
      coins.spread(paying, debts.count);
      for (int debt = 0; debt < debts.count; debt++) {
        paid[debt] += coins.parts[debt];
      }
      paidInAll += paying;
      owedInAll += owed;
      return paying;
    }

    private void bearDebts() {
      System.arraycopy(pools, 0, coins.weights, 0, MOST_LANDS);
      coins.spread(paidInAll, MOST_LANDS);
      for (int land = 0; land < MOST_LANDS; land++) {
        unowed[land] = pools[land] - coins.parts[land];
      }
    }

    private void findStandingWills(Book book) {
      Wills wills = book.wills;
      int lastDay = book.people.died[dead];
      int firstDay = book.lands.marriageRevokes[home] ? book.marriages.lastDay(dead, lastDay) : NONE;
      int whole = NONE;
      for (int will = 0; will < wills.count; will++) {
        if (counts(wills, will, firstDay, lastDay) && wills.isWhole[will]
            && (whole < 0 || wills.isBehind(will, whole))) {
          whole = will;
        }
      }
      standingCount = 0;
      if (whole >= 0) {
        standing[standingCount++] = whole;
      }
      for (int will = 0; will < wills.count; will++) {
        if (counts(wills, will, firstDay, lastDay) && !wills.isWhole[will]
            && (whole < 0 || wills.isBehind(will, whole))) {
          insertStanding(wills, will);
        }
      }
    }

    private boolean counts(Wills wills, int will, int firstDay, int lastDay) {
      boolean isInTime = wills.day[will] >= firstDay && wills.day[will] <= lastDay;
      return isInTime && wills.person[will] == dead && !wills.revoked[will];
    }

    private void insertStanding(Wills wills, int will) {
      int place = standingCount;
      while (place > 0 && wills.isBehind(standing[place - 1], will)) {
        standing[place] = standing[place - 1];
        place--;
      }
      standing[place] = will;
      standingCount++;
    }

    private void readClauses(Book book) {
      Wills wills = book.wills;
      goodCount = 0;
      restWill = NONE;
      for (int thing = 0; thing < MOST_THINGS; thing++) {
        thingTo[thing] = NONE;
      }
      for (int index = 0; index < standingCount; index++) {
        for (int clause = 0; clause < wills.clauseCount; clause++) {
          if (wills.clauseIn[clause] == standing[index]) {
            readClause(book, clause);
          }
        }
      }
    }

    private void readClause(Book book, int clause) {
      Wills wills = book.wills;
      int survival = book.lands.survival[home];
      int person = wills.to[clause];
      if (!book.people.mayTake(person, dead, survival)) {
        person = wills.instead[clause];
        if (person < 0 || !book.people.mayTake(person, dead, survival)) {
          return;
        }
      }
      holder[clause] = person;
      good[goodCount++] = clause;
      if (wills.kind[clause] == ON_THING) {
        thingTo[wills.number[clause]] = person;
      } else if (wills.kind[clause] == ON_REST) {
        restWill = wills.clauseIn[clause];
      }
    }

    private long payThings(Things things, int land) {
      for (int thing = 0; thing < things.count; thing++) {
        boolean goes = thingTo[thing] >= 0 && law[thing] == land;
        coins.weights[thing] = goes ? things.value[thing] : 0;
      }
      long paying = Math.min(unowed[land], coins.total(things.count));
      coins.spread(paying, things.count);
      for (int thing = 0; thing < things.count; thing++) {
        if (thingTo[thing] >= 0) {
          got[thingTo[thing]] += coins.parts[thing];
        }
      }
      return paying;
    }

    private long paySums(Wills wills, long left) {
      for (int index = 0; index < goodCount; index++) {
        int clause = good[index];
        coins.weights[index] = wills.kind[clause] == ON_SUM ? wills.number[clause] : 0;
      }
      long paying = Math.min(left, coins.total(goodCount));
      payHolders(paying);
      return paying;
    }

    private void payRestByParts(Wills wills, long left) {
      for (int index = 0; index < goodCount; index++) {
        int clause = good[index];
        boolean isPart = wills.kind[clause] == ON_REST && wills.clauseIn[clause] == restWill;
        coins.weights[index] = isPart ? wills.number[clause] : 0;
      }
      payHolders(left);
    }

    private void payHolders(long amount) {
      coins.spread(amount, goodCount);
      for (int index = 0; index < goodCount; index++) {
        got[holder[good[index]]] += coins.parts[index];
      }
    }

    private void payRestByShares(Shares shares, long left) {
      long common = shares.commonBottom();
      for (int row = 0; row < TAKING_ROWS; row++) {
        long bottom = Math.max(1, shares.bottom[row]);
        coins.weights[row] = shares.top[row] * (common / bottom);
      }
      coins.spread(left, TAKING_ROWS);
      for (int row = 0; row < TAKING_ROWS; row++) {
        got[row] += coins.parts[row];
      }
    }

    private void findClaims(Shares shares, long twelfths) {
      for (int person = 0; person < MOST_PEOPLE; person++) {
        if (shares.isNear(person)) {
          long bottom = Math.max(1, shares.bottom[person]);
          claim[person] = twelfths * shares.top[person] / (TWELFTHS * bottom);
        }
      }
    }

    private void serveClaims() {
      long missing = 0;
      for (int row = 0; row < TAKING_ROWS; row++) {
        long above = got[row] - claim[row];
        coins.weights[row] = Math.max(0, above);
        missing += Math.max(0, -above);
      }
      coins.spread(missing, TAKING_ROWS);
      for (int row = 0; row < TAKING_ROWS; row++) {
        got[row] = Math.max(got[row], claim[row]) - coins.parts[row];
      }
    }
  }
}
