import java.math.BigInteger;
import java.util.ArrayList;
import java.util.Comparator;
import java.util.HashMap;
import java.util.List;
import java.util.Map;
import java.util.NoSuchElementException;
import java.util.TreeMap;
import java.util.TreeSet;

/**
 * The document once more, in another way: by recursion, lists and fractions of any size. The runs of
 * RandomRunsTest are answered by both, so that a slip in one of them shows.
 */
final class HallModel {
  static final int LAND = Integer.MAX_VALUE;

  record Law(char system, int forced, int survival, boolean revokes, boolean sendsLand, boolean sendsMovables) { }

  record Marriage(int one, int other, int day, int number) { }

  record Stay(int person, int land, int day) { }

  record Thing(int owner, int value, boolean isLand, int land) { }

  record Gift(int to, int day) { }

  record Debt(int person, int rank, int amount, int number) { }

  record Will(int person, int day, boolean isWhole, int number) { }

  record Clause(int will, char kind, int number, int to, int instead) { }

  record Held(Clause clause, int holder) { }

  record Fraction(BigInteger top, BigInteger bottom) {
    static final Fraction ZERO = of(0, 1);
    static final Fraction ONE = of(1, 1);

    static Fraction of(long top, long bottom) {
      return make(BigInteger.valueOf(top), BigInteger.valueOf(bottom));
    }

    static Fraction make(BigInteger top, BigInteger bottom) {
      BigInteger divisor = top.gcd(bottom);
      return new Fraction(top.divide(divisor), bottom.divide(divisor));
    }

    Fraction plus(Fraction more) {
      return make(top.multiply(more.bottom).add(more.top.multiply(bottom)), bottom.multiply(more.bottom));
    }

    Fraction minus(Fraction less) {
      return plus(new Fraction(less.top.negate(), less.bottom));
    }

    Fraction times(Fraction other) {
      return make(top.multiply(other.top), bottom.multiply(other.bottom));
    }

    Fraction over(Fraction other) {
      return make(top.multiply(other.bottom), bottom.multiply(other.top));
    }

    long floor() {
      return top.divide(bottom).longValueExact();
    }

    int compare(Fraction other) {
      return top.multiply(other.bottom).compareTo(other.top.multiply(bottom));
    }
  }

  private final List<Law> laws = new ArrayList<>();
  private final Map<Integer, int[]> taxes = new HashMap<>();
  private final List<int[]> people = new ArrayList<>();
  private final Map<Integer, Integer> deaths = new HashMap<>();
  private final List<Marriage> marriages = new ArrayList<>();
  private final Map<Integer, Integer> partings = new HashMap<>();
  private final List<Stay> stays = new ArrayList<>();
  private final TreeSet<String> unworthy = new TreeSet<>();
  private final TreeSet<String> renounced = new TreeSet<>();
  private final List<Thing> things = new ArrayList<>();
  private final Map<Integer, Gift> gifts = new HashMap<>();
  private final List<Debt> debts = new ArrayList<>();
  private final List<Will> wills = new ArrayList<>();
  private final TreeSet<Integer> revoked = new TreeSet<>();
  private final List<Clause> clauses = new ArrayList<>();

  private static void index(boolean holds) {
    if (!holds) {
      throw new IndexOutOfBoundsException();
    }
  }

  private static void argument(boolean holds) {
    if (!holds) {
      throw new IllegalArgumentException();
    }
  }

  private static void room(List<?> list, int most) {
    if (list.size() == most) {
      throw new IllegalStateException();
    }
  }

  private void someone(int person) {
    index(0 <= person && person < people.size());
  }

  private void someoneOrNone(int person) {
    index(-1 <= person && person < people.size());
  }

  private void someLand(int land) {
    index(0 <= land && land < laws.size());
  }

  private void someThing(int thing) {
    index(0 <= thing && thing < things.size());
  }

  private void hasDied(int person) {
    if (!deaths.containsKey(person)) {
      throw new NoSuchElementException();
    }
  }

  int land(char system, int forced, int survival, boolean revokes, boolean sendsLand, boolean sendsMovables) {
    argument("shfe".indexOf(system) >= 0);
    argument(0 <= forced && forced <= 12 && 0 <= survival && survival <= 999);
    room(laws, 4);
    laws.add(new Law(system, forced, survival, revokes, sendsLand, sendsMovables));
    return laws.size() - 1;
  }

  int taxes(int land, int near, int far) {
    someLand(land);
    argument(0 <= near && near <= 99 && 0 <= far && far <= 99);
    int[] before = taxes.put(land, new int[] {near, far});
    return before == null ? 0 : before[0] * 100 + before[1];
  }

  int person(int born, int first, int second) {
    argument(0 <= born && born <= 99999);
    argument(first == -1 || first != second);
    someoneOrNone(first);
    someoneOrNone(second);
    room(people, 16);
    people.add(new int[] {born, first, second});
    return people.size() - 1;
  }

  int die(int person, int day) {
    someone(person);
    argument(people.get(person)[0] <= day && day <= 99999);
    Integer before = deaths.put(person, day);
    return before == null ? -1 : before;
  }

  int marry(int one, int other, int day) {
    someone(one);
    someone(other);
    argument(one != other && 0 <= day && day <= 99999);
    room(marriages, 20);
    marriages.add(new Marriage(one, other, day, marriages.size()));
    return marriages.size() - 1;
  }

  int part(int marriage, int day) {
    index(0 <= marriage && marriage < marriages.size());
    argument(marriages.get(marriage).day() <= day && day <= 99999);
    Integer before = partings.put(marriage, day);
    return before == null ? -1 : before;
  }

  int live(int person, int land, int day) {
    someone(person);
    someLand(land);
    argument(0 <= day && day <= 99999);
    room(stays, 60);
    int before = livedIn(person, day);
    stays.add(new Stay(person, land, day));
    return before;
  }

  boolean setUnworthy(int person, int dead, boolean isUnworthy) {
    someone(person);
    someone(dead);
    String pair = person + " of " + dead;
    return isUnworthy ? !unworthy.add(pair) : unworthy.remove(pair);
  }

  boolean renounce(int person, int dead) {
    someone(person);
    someone(dead);
    hasDied(dead);
    return renounced.add(person + " of " + dead);
  }

  int thing(int owner, int value, boolean isLand, int land) {
    someone(owner);
    someLand(land);
    argument(1 <= value && value <= 99999);
    room(things, 20);
    things.add(new Thing(owner, value, isLand, land));
    return things.size() - 1;
  }

  int give(int thing, int to, int day) {
    someThing(thing);
    someone(to);
    argument(0 <= day && day <= 99999 && to != things.get(thing).owner());
    Gift before = gifts.put(thing, new Gift(to, day));
    return before == null ? -1 : before.to();
  }

  int debt(int person, int rank, int amount) {
    someone(person);
    argument(0 <= rank && rank <= 3 && 1 <= amount && amount <= 99999);
    room(debts, 20);
    debts.add(new Debt(person, rank, amount, debts.size()));
    return debts.size() - 1;
  }

  int will(int person, int day, boolean isWhole) {
    someone(person);
    argument(0 <= day && day <= 99999);
    room(wills, 12);
    wills.add(new Will(person, day, isWhole, wills.size()));
    return wills.size() - 1;
  }

  boolean revoke(int will) {
    index(0 <= will && will < wills.size());
    return revoked.add(will);
  }

  int clause(int will, char kind, int number, int to, int instead) {
    index(0 <= will && will < wills.size());
    someone(to);
    someoneOrNone(instead);
    if (kind == 't') {
      someThing(number);
    }
    argument("tmr".indexOf(kind) >= 0);
    argument(kind != 'm' || 1 <= number && number <= 99999);
    argument(kind != 'r' || 1 <= number && number <= 99);
    room(clauses, 40);
    clauses.add(new Clause(will, kind, number, to, instead));
    return clauses.size();
  }

  int livedIn(int person, int day) {
    someone(person);
    Stay best = null;
    for (Stay stay : stays) {
      if (stay.person() == person && stay.day() <= day && (best == null || best.day() <= stay.day())) {
        best = stay;
      }
    }
    return best == null ? 0 : best.land();
  }

  boolean takes(int person, int dead, int land) {
    someone(person);
    someone(dead);
    someLand(land);
    hasDied(dead);
    int day = deaths.get(dead);
    if (people.get(person)[0] - day > 300) {
      return false;
    }
    if (deaths.containsKey(person) && deaths.get(person) - day <= laws.get(land).survival()) {
      return false;
    }
    return !unworthy.contains(person + " of " + dead) && !renounced.contains(person + " of " + dead);
  }

  int spouse(int dead, int land) {
    someone(dead);
    someLand(land);
    hasDied(dead);
    int day = deaths.get(dead);
    List<Marriage> on = new ArrayList<>();
    for (Marriage marriage : marriages) {
      boolean isOf = marriage.one() == dead || marriage.other() == dead;
      if (isOf && marriage.day() <= day && day < partings.getOrDefault(marriage.number(), Integer.MAX_VALUE)) {
        on.add(marriage);
      }
    }
    if (on.isEmpty()) {
      return -1;
    }
    on.sort(Comparator.comparingInt(Marriage::day).thenComparingInt(Marriage::number));
    Marriage latest = on.get(on.size() - 1);
    int other = latest.one() == dead ? latest.other() : latest.one();
    return takes(other, dead, land) ? other : -1;
  }

  long shareTop(int dead, int land, int person) {
    return share(dead, land, person).top().longValueExact();
  }

  long shareBottom(int dead, int land, int person) {
    return share(dead, land, person).bottom().longValueExact();
  }

  private Fraction share(int dead, int land, int person) {
    someone(dead);
    someoneOrNone(person);
    someLand(land);
    hasDied(dead);
    return shares(dead, land).getOrDefault(person == -1 ? LAND : person, Fraction.ZERO);
  }

  private List<Integer> children(int parent) {
    List<Integer> found = new ArrayList<>();
    for (int child = 0; child < people.size(); child++) {
      if (people.get(child)[1] == parent || people.get(child)[2] == parent) {
        found.add(child);
      }
    }
    return found;
  }

  private List<Integer> parents(int child) {
    List<Integer> found = new ArrayList<>();
    for (int parent = 0; parent < people.size(); parent++) {
      if (people.get(child)[1] == parent || people.get(child)[2] == parent) {
        found.add(parent);
      }
    }
    return found;
  }

  private boolean line(int person, int dead, int land, int leftAside) {
    if (person == leftAside) {
      return false;
    }
    return takes(person, dead, land)
        || children(person).stream().anyMatch(child -> line(child, dead, land, leftAside));
  }

  private boolean isDescendant(int person, int dead) {
    return parents(person).stream().anyMatch(parent -> parent == dead || isDescendant(parent, dead));
  }

  private void down(Map<Integer, Fraction> out, Fraction part, int person, int dead, int land, int leftAside) {
    List<Integer> lines = children(person).stream().filter(c -> line(c, dead, land, leftAside)).toList();
    for (int child : lines) {
      Fraction piece = part.times(Fraction.of(1, lines.size()));
      if (takes(child, dead, land)) {
        out.merge(child, piece, Fraction::plus);
      } else {
        down(out, piece, child, dead, land, leftAside);
      }
    }
  }

  /** Only shares above nothing; the land's own under LAND, which is behind all people. */
  private TreeMap<Integer, Fraction> shares(int dead, int land) {
    TreeMap<Integer, Fraction> out = new TreeMap<>();
    int spouse = spouse(dead, land);
    switch (laws.get(land).system()) {
      case 's' -> stocks(out, dead, land, spouse);
      case 'h' -> heads(out, dead, land, spouse);
      case 'f' -> fractions(out, dead, land, spouse);
      default -> eldest(out, dead, land, spouse);
    }
    Fraction rest = Fraction.ONE;
    for (Fraction one : out.values()) {
      rest = rest.minus(one);
    }
    if (rest.compare(Fraction.ZERO) != 0) {
      out.put(LAND, rest);
    }
    return out;
  }

  private void stocks(Map<Integer, Fraction> out, int dead, int land, int spouse) {
    Fraction forSpouse = Fraction.ONE;
    List<Integer> lines = parents(dead).stream().filter(p -> line(p, dead, land, dead)).toList();
    if (children(dead).stream().anyMatch(child -> line(child, dead, land, -1))) {
      forSpouse = Fraction.of(1, 3);
      down(out, spouse < 0 ? Fraction.ONE : Fraction.of(2, 3), dead, dead, land, -1);
    } else if (!lines.isEmpty()) {
      forSpouse = Fraction.of(1, 2);
      Fraction each = Fraction.of(1, (spouse < 0 ? 1 : 2) * lines.size());
      for (int parent : lines) {
        if (takes(parent, dead, land)) {
          out.merge(parent, each, Fraction::plus);
        } else {
          down(out, each, parent, dead, land, dead);
        }
      }
    }
    if (spouse >= 0) {
      out.merge(spouse, forSpouse, Fraction::plus);
    }
  }

  private void heads(Map<Integer, Fraction> out, int dead, int land, int spouse) {
    TreeSet<Integer> heads = new TreeSet<>();
    List<Integer> generation = List.of(dead);
    while (!generation.isEmpty() && heads.isEmpty()) {
      generation = generation.stream().flatMap(p -> children(p).stream()).distinct().toList();
      generation.stream().filter(p -> takes(p, dead, land)).forEach(heads::add);
    }
    if (heads.isEmpty()) {
      parents(dead).stream().filter(p -> takes(p, dead, land)).forEach(heads::add);
    }
    if (heads.isEmpty()) {
      for (int parent : parents(dead)) {
        children(parent).stream().filter(p -> p != dead && takes(p, dead, land)).forEach(heads::add);
      }
    }
    if (spouse >= 0) {
      heads.add(spouse);
    }
    heads.forEach(p -> out.put(p, Fraction.of(1, heads.size())));
  }

  private void fractions(Map<Integer, Fraction> out, int dead, int land, int spouse) {
    if (spouse >= 0) {
      out.merge(spouse, Fraction.of(1, 4), Fraction::plus);
    }
    parents(dead).stream().filter(p -> takes(p, dead, land))
        .forEach(p -> out.merge(p, Fraction.of(1, 6), Fraction::plus));
    children(dead).stream().filter(p -> takes(p, dead, land))
        .forEach(p -> out.merge(p, Fraction.of(1, 3), Fraction::plus));
    Fraction sum = out.values().stream().reduce(Fraction.ZERO, Fraction::plus);
    out.replaceAll((p, part) -> part.over(sum));
  }

  private void eldest(Map<Integer, Fraction> out, int dead, int land, int spouse) {
    int heir = eldestBelow(dead, dead, land);
    if (heir < 0) {
      heir = spouse;
    }
    if (heir >= 0) {
      out.put(heir, Fraction.ONE);
    }
  }

  private int eldestBelow(int person, int dead, int land) {
    List<Integer> lines = new ArrayList<>(children(person));
    lines.sort(Comparator.<Integer>comparingInt(c -> people.get(c)[0]).thenComparingInt(c -> c));
    for (int child : lines) {
      if (line(child, dead, land, -1)) {
        return takes(child, dead, land) ? child : eldestBelow(child, dead, land);
      }
    }
    return -1;
  }

  int governs(int thing, int dead) {
    someThing(thing);
    someone(dead);
    hasDied(dead);
    return owner(thing, deaths.get(dead)) == dead ? law(things.get(thing), dead) : -1;
  }

  private int owner(int thing, int day) {
    int teller = things.get(thing).owner();
    Gift gift = gifts.get(thing);
    if (gift == null || deaths.containsKey(teller) && gift.day() > deaths.get(teller) || gift.day() > day) {
      return teller;
    }
    return gift.day() == day ? -1 : gift.to();
  }

  private int law(Thing thing, int dead) {
    int home = livedIn(dead, deaths.get(dead));
    if (thing.isLand()) {
      return laws.get(thing.land()).sendsLand() ? home : thing.land();
    }
    return laws.get(home).sendsMovables() ? thing.land() : home;
  }

  int inForce(int dead, int position) {
    someone(dead);
    index(position >= 0);
    hasDied(dead);
    List<Will> standing = standing(dead);
    return position < standing.size() ? standing.get(position).number() : -1;
  }

  private List<Will> standing(int dead) {
    int day = deaths.get(dead);
    int home = livedIn(dead, day);
    int earliest = -1;
    if (home < laws.size() && laws.get(home).revokes()) {
      for (Marriage marriage : marriages) {
        if ((marriage.one() == dead || marriage.other() == dead) && marriage.day() <= day) {
          earliest = Math.max(earliest, marriage.day());
        }
      }
    }
    int from = earliest;
    List<Will> counting = new ArrayList<>(wills.stream()
        .filter(w -> w.person() == dead && w.day() <= day && w.day() >= from && !revoked.contains(w.number()))
        .toList());
    counting.sort(Comparator.comparingInt(Will::day).thenComparingInt(Will::number));
    List<Will> standing = new ArrayList<>();
    for (Will will : counting) {
      if (will.isWhole()) {
        standing.clear();
      }
      standing.add(will);
    }
    return standing;
  }

  int pool(int dead, int land) {
    someone(dead);
    someLand(land);
    hasDied(dead);
    int sum = 0;
    for (int thing = 0; thing < things.size(); thing++) {
      sum += governs(thing, dead) == land ? things.get(thing).value() : 0;
    }
    return sum;
  }

  /** Rounds each part down, then gives one coin to each of the greatest remainders. */
  private static List<Long> spread(long amount, List<Fraction> weights) {
    Fraction sum = weights.stream().reduce(Fraction.ZERO, Fraction::plus);
    List<Long> parts = new ArrayList<>();
    List<Fraction> remainders = new ArrayList<>();
    List<Integer> rows = new ArrayList<>();
    long left = amount;
    for (Fraction weight : weights) {
      Fraction part = amount == 0 ? Fraction.ZERO : Fraction.of(amount, 1).times(weight).over(sum);
      rows.add(parts.size());
      parts.add(part.floor());
      remainders.add(part.minus(Fraction.of(part.floor(), 1)));
      left -= part.floor();
    }
    rows.sort((a, b) -> remainders.get(b).compare(remainders.get(a)));
    for (int coin = 0; coin < left; coin++) {
      parts.set(rows.get(coin), parts.get(rows.get(coin)) + 1);
    }
    return parts;
  }

  private static List<Long> spreadBy(long amount, List<Long> weights) {
    return spread(amount, weights.stream().map(w -> Fraction.of(w, 1)).toList());
  }

  private static long sum(List<Long> numbers) {
    return numbers.stream().mapToLong(Long::longValue).sum();
  }

  private List<Long> pools(int dead) {
    List<Long> pools = new ArrayList<>();
    for (int land = 0; land < laws.size(); land++) {
      pools.add((long) pool(dead, land));
    }
    return pools;
  }

  private Map<Integer, Long> paid(int dead) {
    Map<Integer, Long> paid = new HashMap<>();
    long left = sum(pools(dead));
    for (int rank = 0; rank < 4; rank++) {
      int level = rank;
      List<Debt> due = debts.stream().filter(d -> d.person() == dead && d.rank() == level).toList();
      List<Long> amounts = due.stream().map(d -> (long) d.amount()).toList();
      boolean inFull = sum(amounts) <= left;
      List<Long> parts = inFull ? amounts : spreadBy(left, amounts);
      for (int row = 0; row < due.size(); row++) {
        paid.put(due.get(row).number(), parts.get(row));
        left -= parts.get(row);
      }
    }
    return paid;
  }

  int free(int dead, int land) {
    someone(dead);
    someLand(land);
    hasDied(dead);
    List<Long> pools = pools(dead);
    long borne = paid(dead).values().stream().mapToLong(Long::longValue).sum();
    return (int) (pools.get(land) - spreadBy(borne, pools).get(land));
  }

  int paidOf(int debt) {
    index(0 <= debt && debt < debts.size());
    int dead = debts.get(debt).person();
    hasDied(dead);
    return (int) (long) paid(dead).get(debt);
  }

  private List<Held> held(int dead) {
    int home = livedIn(dead, deaths.get(dead));
    List<Held> held = new ArrayList<>();
    for (Will will : standing(dead)) {
      for (Clause clause : clauses) {
        if (clause.will() == will.number()) {
          if (takes(clause.to(), dead, home)) {
            held.add(new Held(clause, clause.to()));
          } else if (clause.instead() >= 0 && takes(clause.instead(), dead, home)) {
            held.add(new Held(clause, clause.instead()));
          }
        }
      }
    }
    return held;
  }

  /** Pays rows in full, or shares what there is, and tells what is left. */
  private static long pay(TreeMap<Integer, Long> got, long there, List<Integer> to, List<Long> wanted) {
    List<Long> parts = sum(wanted) <= there ? wanted : spreadBy(there, wanted);
    for (int row = 0; row < to.size(); row++) {
      got.merge(to.get(row), parts.get(row), Long::sum);
    }
    return there - sum(parts);
  }

  private TreeMap<Integer, Long> beforeForced(int dead, int land) {
    TreeMap<Integer, Long> got = new TreeMap<>();
    List<Held> held = held(dead);
    Map<Integer, Integer> thingTo = new TreeMap<>();
    held.stream().filter(h -> h.clause().kind() == 't').filter(h -> governs(h.clause().number(), dead) == land)
        .forEach(h -> thingTo.put(h.clause().number(), h.holder()));
    long left = pay(got, free(dead, land), new ArrayList<>(thingTo.values()),
        thingTo.keySet().stream().map(t -> (long) things.get(t).value()).toList());
    if (land == livedIn(dead, deaths.get(dead))) {
      List<Held> sums = held.stream().filter(h -> h.clause().kind() == 'm').toList();
      left = pay(got, left, sums.stream().map(Held::holder).toList(),
          sums.stream().map(h -> (long) h.clause().number()).toList());
    }
    List<Held> rests = held.stream().filter(h -> h.clause().kind() == 'r').toList();
    List<Integer> to = new ArrayList<>();
    List<Fraction> weights = new ArrayList<>();
    if (rests.isEmpty()) {
      shares(dead, land).forEach((p, part) -> {
        to.add(p);
        weights.add(part);
      });
    } else {
      int last = rests.get(rests.size() - 1).clause().will();
      rests.stream().filter(h -> h.clause().will() == last).forEach(h -> {
        to.add(h.holder());
        weights.add(Fraction.of(h.clause().number(), 1));
      });
    }
    List<Long> parts = spread(left, weights);
    for (int row = 0; row < to.size(); row++) {
      got.merge(to.get(row), parts.get(row), Long::sum);
    }
    return got;
  }

  int claims(int dead, int land, int person) {
    someone(dead);
    someone(person);
    someLand(land);
    hasDied(dead);
    if (standing(dead).isEmpty() || !isNear(person, dead, land)) {
      return 0;
    }
    Fraction part = Fraction.of(laws.get(land).forced(), 12).times(share(dead, land, person));
    return (int) Fraction.of(free(dead, land), 1).times(part).floor();
  }

  private boolean isNear(int person, int dead, int land) {
    return isDescendant(person, dead) || spouse(dead, land) == person;
  }

  private TreeMap<Integer, Long> got(int dead, int land) {
    TreeMap<Integer, Long> got = beforeForced(dead, land);
    for (int person = 0; person < people.size(); person++) {
      got.putIfAbsent(person, 0L);
    }
    long missing = 0;
    List<Integer> others = new ArrayList<>();
    List<Long> above = new ArrayList<>();
    for (int person : List.copyOf(got.keySet())) {
      long claim = person == LAND ? 0 : claims(dead, land, person);
      if (got.get(person) < claim) {
        missing += claim - got.get(person);
        got.put(person, claim);
      } else {
        others.add(person);
        above.add(got.get(person) - claim);
      }
    }
    List<Long> parts = spreadBy(missing, above);
    for (int row = 0; row < others.size(); row++) {
      got.merge(others.get(row), -parts.get(row), Long::sum);
    }
    return got;
  }

  int gets(int dead, int land, int person) {
    someone(dead);
    someoneOrNone(person);
    someLand(land);
    hasDied(dead);
    return (int) (long) got(dead, land).getOrDefault(person == -1 ? LAND : person, 0L);
  }

  int tax(int dead, int land, int person) {
    someone(person);
    int gets = gets(dead, land, person);
    int[] percent = taxes.getOrDefault(land, new int[2]);
    return (int) Fraction.of((long) gets * percent[isNear(person, dead, land) ? 0 : 1], 100).floor();
  }

  float paidShare() {
    long paid = 0;
    long owed = 0;
    for (Debt debt : debts) {
      if (deaths.containsKey(debt.person())) {
        paid += paidOf(debt.number());
        owed += debt.amount();
      }
    }
    if (owed == 0) {
      throw new ArithmeticException();
    }
    return (float) paid / (float) owed;
  }

  double meanValue() {
    if (things.isEmpty()) {
      throw new ArithmeticException();
    }
    return (double) things.stream().mapToLong(Thing::value).sum() / (double) things.size();
  }

  boolean isConsistent() {
    return true;
  }
}
