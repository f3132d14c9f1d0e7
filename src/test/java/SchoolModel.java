import java.util.ArrayList;
import java.util.Arrays;
import java.util.Comparator;
import java.util.HashMap;
import java.util.List;
import java.util.Map;
import java.util.stream.Collectors;
import java.util.stream.IntStream;

/**
 * The document written once more, as plainly as the Java library lets it be: lists of what was told, and
 * answers found by trying everything. RandomRunsTest asks it and the class the same.
 */
final class SchoolModel {
  static final int NONE = -1;
  static final int NOTHING = -2000000000;

  record Village(int x, int y, int land) { }
  record Word(int village, int land, int day) { }
  record Statute(StatuteText text, int day, int election, Integer voidDay) { }
  record Person(int village, int rank, int oath, Integer left, int worth, List<Integer> wishes) { }
  record Payment(int person, int day, int coins) { }
  record Vote(int person, boolean is, int nation) { }
  record Closing(int day, int statute, List<Vote> votes) { }
  record Election(int day, Map<Integer, Boolean> cast, Closing closing, Integer voidDay) { }
  record House(int rooms, int school, int town, Integer third) { }
  record Entry(int year, int mark, int land) { }

  /** All that is told; what stands in its lists never changes, so copying the lists copies it. */
  static final class Told {
    int today = 0;
    List<Village> villages = new ArrayList<>();
    List<Word> words = new ArrayList<>();
    List<Statute> statutes = new ArrayList<>();
    List<Person> persons = new ArrayList<>();
    List<Payment> payments = new ArrayList<>();
    List<Election> elections = new ArrayList<>();
    List<House> houses = new ArrayList<>();
    List<List<Entry>> books = List.of(new ArrayList<>(), new ArrayList<>());
    int[] purses = new int[4];
    int[] parts = new int[4];
    int feasts = 0;
    int masters = 0;

    Told copy() {
      Told t = new Told();
      t.today = today;
      t.villages.addAll(villages);
      t.words.addAll(words);
      t.statutes.addAll(statutes);
      t.persons.addAll(persons);
      t.payments.addAll(payments);
      t.elections.addAll(elections);
      t.houses.addAll(houses);
      t.books.get(0).addAll(books.get(0));
      t.books.get(1).addAll(books.get(1));
      t.purses = purses.clone();
      t.parts = parts.clone();
      t.feasts = feasts;
      t.masters = masters;
      return t;
    }
  }

  private Told t = new Told();
  private final Told[] images = new Told[3];
  private byte[] tape = new byte[0];
  private final Object[] slots = new Object[4];
  private int fault = 0;
  private int faultPlace = NONE;
  private Map<Integer, Integer> lodged = new HashMap<>();
  private List<Integer> joined = List.of();
  private int rivals = 0;

  private static boolean day(int d) {
    return 0 <= d && d <= 3599;
  }

  private static boolean nationNumber(int n) {
    return 0 <= n && n <= 3;
  }

  private static <T> boolean has(List<T> list, int i) {
    return 0 <= i && i < list.size();
  }

  // ---- tape, days

  int feed(int a, int b, int c, int d, int e) {
    if (tape.length + 20 > 600) {
      return NONE;
    }
    java.nio.ByteBuffer longer = java.nio.ByteBuffer.allocate(tape.length + 20);
    tape = longer.put(tape).putInt(a).putInt(b).putInt(c).putInt(d).putInt(e).array();
    return tape.length;
  }

  int end(int n) {
    if (n < 0 || n > tape.length) {
      return NONE;
    }
    tape = Arrays.copyOf(tape, n);
    return n;
  }

  int next(int days) {
    if (!day(days) || !day(t.today + days)) {
      return NONE;
    }
    return t.today += days;
  }

  // ---- villages, statutes

  int village(int x, int y, int land) {
    if (x < 0 || x > 99 || y < 0 || y > 99 || land < 0 || land > 9) {
      return -2;
    }
    if (t.villages.size() == 40) {
      return -3;
    }
    t.villages.add(new Village(x, y, land));
    return t.villages.size() - 1;
  }

  int moved(int village, int land) {
    if (!has(t.villages, village) || land < 0 || land > 9) {
      return -2;
    }
    if (t.words.size() == 40) {
      return -3;
    }
    t.words.add(new Word(village, land, t.today));
    return 0;
  }

  int statute(int election) {
    if (election != NONE) {
      if (!closed(election)) {
        return -2;
      }
      Election e = t.elections.get(election);
      if (e.closing.day != t.today || e.voidDay != null || !carried(e)) {
        return -2;
      }
    }
    if (t.statutes.size() == 10) {
      return -3;
    }
    StatuteText text = new StatuteText(tape, t.villages);
    tape = new byte[0];
    fault = text.fault;
    faultPlace = text.place;
    if (fault != 0) {
      return -4;
    }
    t.statutes.add(new Statute(text, t.today, election, null));
    return t.statutes.size() - 1;
  }

  int fault(int what) {
    return what == 0 ? fault : what == 1 ? faultPlace : NONE;
  }

  private int inForce(int day, int known) {
    int found = NONE;
    for (int i = 0; i < t.statutes.size(); i++) {
      Statute s = t.statutes.get(i);
      boolean isVoid = s.voidDay != null && s.voidDay <= known;
      if (s.day <= Math.min(day, known) && !isVoid) {
        found = i;
      }
    }
    return found;
  }

  int force(int day, int known) {
    return day(day) && day(known) ? inForce(day, known) : -2;
  }

  private int land(int village, int day, int known) {
    int land = t.villages.get(village).land;
    for (Word w : t.words) {
      if (w.village == village && w.day <= day && w.day <= known) {
        land = w.land;
      }
    }
    return land;
  }

  private List<Integer> claimants(int statute, int village, int land) {
    if (statute == NONE) {
      return List.of();
    }
    Village v = t.villages.get(village);
    return t.statutes.get(statute).text.nationsOf(v.x, v.y, land);
  }

  private int firstOf(List<Integer> claimants) {
    return claimants.isEmpty() ? NONE : claimants.get(0);
  }

  int claims(int village, int day, int known) {
    if (!has(t.villages, village) || !day(day) || !day(known)) {
      return -2;
    }
    int bits = 0;
    for (int n : claimants(inForce(day, known), village, land(village, day, known))) {
      bits |= 1 << n;
    }
    return bits;
  }

  int nation(int village, int day, int known) {
    if (!has(t.villages, village) || !day(day) || !day(known)) {
      return -2;
    }
    return firstOf(claimants(inForce(day, known), village, land(village, day, known)));
  }

  int sways(int village) {
    if (!has(t.villages, village)) {
      return -2;
    }
    int s = inForce(t.today, t.today);
    int now = nation(village, t.today, t.today);
    int bits = 0;
    for (int land = 0; land <= 9; land++) {
      bits |= firstOf(claimants(s, village, land)) != now ? 1 << land : 0;
    }
    return bits;
  }

  // ---- persons

  int oath(int village, int rank) {
    if (!has(t.villages, village) || rank < 0 || rank > 3) {
      return -2;
    }
    if (t.persons.size() == 80) {
      return -3;
    }
    t.persons.add(new Person(village, rank, t.today, null, 99, List.of()));
    return t.persons.size() - 1;
  }

  private static boolean slot(int slot) {
    return 0 <= slot && slot <= 3;
  }

  private static int length(Object row) {
    return java.lang.reflect.Array.getLength(row);
  }

  int oaths(int slot) {
    if (!slot(slot)) {
      return -2;
    }
    if (slots[slot] == null) {
      return -6;
    }
    int n = 0;
    for (int i = 0; i + 2 <= length(slots[slot]); i += 2) {
      long v = java.lang.reflect.Array.getLong(slots[slot], i);
      long r = java.lang.reflect.Array.getLong(slots[slot], i + 1);
      if (v != (int) v || r != (int) r || oath((int) v, (int) r) < 0) {
        return n;
      }
      n++;
    }
    return n;
  }

  private boolean there(int person, int day) {
    Person p = t.persons.get(person);
    return p.oath <= day && (p.left == null || day < p.left);
  }

  private boolean thereToday(int person) {
    return has(t.persons, person) && there(person, t.today);
  }

  int leave(int person) {
    if (!has(t.persons, person) || t.persons.get(person).left != null) {
      return -2;
    }
    Person p = t.persons.get(person);
    t.persons.set(person, new Person(p.village, p.rank, p.oath, t.today, p.worth, p.wishes));
    return 0;
  }

  int personOf(int person, int what) {
    if (!has(t.persons, person) || what < 0 || what > 3) {
      return NOTHING;
    }
    Person p = t.persons.get(person);
    return List.of(p.village, p.rank, p.oath, p.left == null ? NONE : p.left).get(what);
  }

  private int nationOf(int person, int known) {
    Person p = t.persons.get(person);
    return nation(p.village, p.oath, known);
  }

  private int nationUnder(int statute, int person, int known) {
    Person p = t.persons.get(person);
    return firstOf(claimants(statute, p.village, land(p.village, p.oath, known)));
  }

  int of(int person, int known) {
    return has(t.persons, person) && day(known) ? nationOf(person, known) : -2;
  }

  int heads(int nation, int day, int known) {
    if (nation != NONE && !nationNumber(nation) || !day(day) || !day(known)) {
      return -2;
    }
    return (int) IntStream.range(0, t.persons.size())
        .filter(p -> there(p, day) && nationOf(p, known) == nation).count();
  }

  int sorted(int nation, int statute, int day) {
    if (!nationNumber(nation) || !has(t.statutes, statute) || !day(day)) {
      return -2;
    }
    return (int) IntStream.range(0, t.persons.size())
        .filter(p -> there(p, day) && nationUnder(statute, p, t.today) == nation).count();
  }

  // ---- coins

  int fees(int person, int day, int known) {
    if (!has(t.persons, person) || !day(day) || !day(known)) {
      return -2;
    }
    Person p = t.persons.get(person);
    int sum = 0;
    for (int d = 0; d <= day; d++) {
      int s = inForce(d, known);
      if (there(person, d) && (d - p.oath) % 360 == 0 && s != NONE) {
        sum += t.statutes.get(s).text.fee(p.rank);
      }
    }
    return sum;
  }

  int pay(int person, int coins) {
    if (!has(t.persons, person) || coins < 1 || coins > 9999 || nationOf(person, t.today) == NONE) {
      return -2;
    }
    if (t.payments.size() == 300) {
      return -3;
    }
    t.payments.add(new Payment(person, t.today, coins));
    return t.purses[nationOf(person, t.today)] += coins;
  }

  int feast(int nation, int coins) {
    if (!nationNumber(nation) || coins < 1 || coins > 99999) {
      return -2;
    }
    if (t.purses[nation] < coins) {
      return -5;
    }
    t.feasts += coins;
    return t.purses[nation] -= coins;
  }

  int even(int person, int day) {
    if (!has(t.persons, person) || !day(day)) {
      return NOTHING;
    }
    int paid = t.payments.stream().filter(p -> p.person == person && p.day <= day)
        .mapToInt(Payment::coins).sum();
    return paid - fees(person, day, t.today);
  }

  int masters(int coins) {
    if (coins < 1 || coins > 99999) {
      return -2;
    }
    int[] heads = IntStream.range(0, 4).map(n -> heads(n, t.today, t.today)).toArray();
    int all = Arrays.stream(heads).sum();
    if (all == 0) {
      return -5;
    }
    int[] part = IntStream.range(0, 4).map(n -> coins * heads[n] / all).toArray();
    int lacking = coins - Arrays.stream(part).sum();
    List<Integer> byRest = IntStream.range(0, 4).boxed()
        .sorted(Comparator.comparingInt((Integer n) -> -(coins * heads[n] % all))).toList();
    for (int n : byRest.subList(0, lacking)) {
      part[n]++;
    }
    for (int n = 0; n < 4; n++) {
      if (t.purses[n] < part[n]) {
        return -5;
      }
    }
    for (int n = 0; n < 4; n++) {
      t.purses[n] -= part[n];
    }
    t.parts = part;
    t.masters += coins;
    return Arrays.stream(t.purses).sum();
  }

  int part(int nation) {
    return nationNumber(nation) ? t.parts[nation] : -2;
  }

  // ---- elections

  private boolean closed(int election) {
    return has(t.elections, election) && t.elections.get(election).closing != null;
  }

  int call() {
    for (Election e : t.elections) {
      if (e.day == t.today && e.closing == null) {
        return -2;
      }
    }
    if (t.elections.size() == 20) {
      return -3;
    }
    t.elections.add(new Election(t.today, Map.of(), null, null));
    return t.elections.size() - 1;
  }

  int vote(int election, int person, boolean is) {
    if (!has(t.elections, election) || !thereToday(person)) {
      return -2;
    }
    if (closed(election)) {
      return -5;
    }
    Election e = t.elections.get(election);
    Map<Integer, Boolean> cast = new HashMap<>(e.cast);
    cast.put(person, is);
    t.elections.set(election, new Election(e.day, cast, null, null));
    return 0;
  }

  int close(int election) {
    if (!has(t.elections, election)) {
      return -2;
    }
    if (closed(election)) {
      return -5;
    }
    Election e = t.elections.get(election);
    List<Vote> votes = new ArrayList<>();
    for (Map.Entry<Integer, Boolean> v : e.cast.entrySet()) {
      if (thereToday(v.getKey())) {
        votes.add(new Vote(v.getKey(), v.getValue(), nationOf(v.getKey(), t.today)));
      }
    }
    Closing closing = new Closing(t.today, inForce(t.today, t.today), votes);
    Election then = new Election(e.day, e.cast, closing, null);
    t.elections.set(election, then);
    return carried(then) ? 1 : 0;
  }

  private boolean carried(Election e) {
    return carried(e.closing.votes, e.closing.statute);
  }

  private boolean carried(List<Vote> votes, int statute) {
    if (statute != NONE && t.statutes.get(statute).text.byNations()) {
      return Integer.bitCount(nations(votes, 1)) > Integer.bitCount(nations(votes, -1));
    }
    return byHeads(votes, statute);
  }

  private boolean byHeads(List<Vote> votes, int statute) {
    int part = statute == NONE ? 50 : t.statutes.get(statute).text.part();
    double all = votes.size();
    return all > 0 && tally(votes, true) / all > part / 100.0 + 1e-9;
  }

  private static int tally(List<Vote> votes, boolean is) {
    return (int) votes.stream().filter(v -> v.is == is).count();
  }

  private static int nations(List<Vote> votes, int sign) {
    int bits = 0;
    for (int n = 0; n < 4; n++) {
      int nation = n;
      int lead = votes.stream().filter(v -> v.nation == nation).mapToInt(v -> v.is ? 1 : -1).sum();
      if (Integer.signum(lead) == sign) {
        bits |= 1 << n;
      }
    }
    return bits;
  }

  int electionOf(int election, int what) {
    if (!closed(election) || what < 0 || what > 7) {
      return NOTHING;
    }
    Election e = t.elections.get(election);
    List<Vote> votes = e.closing.votes;
    return List.of(carried(e) ? 1 : 0, byHeads(votes, e.closing.statute) ? 1 : 0, nations(votes, 1),
        nations(votes, -1), tally(votes, true), tally(votes, false), e.closing.day,
        e.voidDay != null ? 1 : 0).get(what);
  }

  int under(int election, int statute) {
    if (!closed(election) || !has(t.statutes, statute)) {
      return -2;
    }
    Closing c = t.elections.get(election).closing;
    List<Vote> votes = c.votes.stream()
        .map(v -> new Vote(v.person, v.is, nationUnder(statute, v.person, c.day))).toList();
    return carried(votes, statute) ? 1 : 0;
  }

  /** Tries sets of votes, by how many of each kind (NATION, for or against) are in them. */
  int swing(int election) {
    if (!closed(election)) {
      return -2;
    }
    Closing c = t.elections.get(election).closing;
    boolean now = carried(c.votes, c.statute);
    int most = c.votes.size();
    for (int n = 1; n <= most; n++) {
      if (canSwing(c, new ArrayList<>(c.votes), 0, n, now)) {
        return n;
      }
    }
    return NONE;
  }

  private boolean canSwing(Closing c, List<Vote> votes, int kind, int left, boolean now) {
    if (left == 0) {
      return carried(votes, c.statute) != now;
    }
    if (kind == 10) {
      return false;
    }
    int nation = kind / 2 - 1;
    boolean is = kind % 2 == 0;
    List<Integer> of = IntStream.range(0, c.votes.size()).boxed()
        .filter(i -> c.votes.get(i).nation == nation && c.votes.get(i).is == is).toList();
    for (int k = 0; k <= Math.min(left, of.size()); k++) {
      List<Vote> then = new ArrayList<>(votes);
      for (int i : of.subList(0, k)) {
        Vote v = votes.get(i);
        then.set(i, new Vote(v.person, !v.is, v.nation));
      }
      if (canSwing(c, then, kind + 1, left - k, now)) {
        return true;
      }
    }
    return false;
  }

  int undo(int election) {
    if (!closed(election)) {
      return -2;
    }
    if (t.elections.get(election).voidDay != null) {
      return -5;
    }
    return voidElection(election);
  }

  private int voidElection(int election) {
    Election e = t.elections.get(election);
    if (e.voidDay != null) {
      return 0;
    }
    t.elections.set(election, new Election(e.day, e.cast, e.closing, t.today));
    int n = 1;
    for (int s = 0; s < t.statutes.size(); s++) {
      if (t.statutes.get(s).election == election) {
        n += voidStatute(s);
      }
    }
    return n;
  }

  private int voidStatute(int statute) {
    Statute s = t.statutes.get(statute);
    if (s.voidDay != null) {
      return 0;
    }
    t.statutes.set(statute, new Statute(s.text, s.day, s.election, t.today));
    int n = 1;
    for (int e = 0; e < t.elections.size(); e++) {
      if (closed(e) && t.elections.get(e).closing.statute == statute) {
        n += voidElection(e);
      }
    }
    return n;
  }

  // ---- rector

  private int rector(int day, int known, int[] nations) {
    int s = inForce(day, known);
    int months = s == NONE ? 3 : t.statutes.get(s).text.turn();
    int k = day / (30 * months);
    for (int n = k % 4; n < k % 4 + 4; n++) {
      int nation = n % 4;
      if (IntStream.range(0, nations.length).anyMatch(p -> nations[p] == nation && there(p, day))) {
        return nation;
      }
    }
    return NONE;
  }

  private int[] nationsAsKnown(int known) {
    return IntStream.range(0, t.persons.size()).map(p -> nationOf(p, known)).toArray();
  }

  int rector(int day, int known) {
    return day(day) && day(known) ? rector(day, known, nationsAsKnown(known)) : -2;
  }

  int turn(int nation, int from) {
    if (!nationNumber(nation) || !day(from)) {
      return -2;
    }
    int[] nations = nationsAsKnown(t.today);
    for (int d = from; d <= 3599; d++) {
      if (rector(d, t.today, nations) == nation) {
        return d;
      }
    }
    return NONE;
  }

  // ---- houses

  private static boolean sum(int n) {
    return 0 <= n && n <= 999;
  }

  int house(int rooms, int school, int town) {
    if (rooms < 1 || rooms > 9 || !sum(school) || !sum(town)) {
      return -2;
    }
    if (t.houses.size() == 12) {
      return -3;
    }
    t.houses.add(new House(rooms, school, town, null));
    return t.houses.size() - 1;
  }

  int appeal(int house, int sum) {
    if (!has(t.houses, house) || !sum(sum)) {
      return -2;
    }
    House h = t.houses.get(house);
    t.houses.set(house, new House(h.rooms, h.school, h.town, sum));
    return rent(house);
  }

  int rent(int house) {
    if (!has(t.houses, house)) {
      return -2;
    }
    House h = t.houses.get(house);
    if (h.third == null) {
      return (h.school + h.town) / 2;
    }
    return IntStream.of(h.school, h.town, h.third).sorted().toArray()[1];
  }

  int wish(int person, int house) {
    if (!has(t.persons, person) || !has(t.houses, house)) {
      return -2;
    }
    Person p = t.persons.get(person);
    if (p.wishes.contains(house)) {
      return -2;
    }
    if (p.wishes.size() == 4) {
      return -3;
    }
    List<Integer> wishes = new ArrayList<>(p.wishes);
    wishes.add(house);
    t.persons.set(person, new Person(p.village, p.rank, p.oath, p.left, p.worth, wishes));
    return wishes.size();
  }

  int lodge() {
    Map<Integer, Integer> found = new HashMap<>();
    List<Integer> order = here().stream()
        .sorted(Comparator.comparingInt((Integer p) -> -t.persons.get(p).rank)).toList();
    for (int p : order) {
      for (int house : t.persons.get(p).wishes) {
        long taken = found.values().stream().filter(h -> h == house).count();
        if (taken < t.houses.get(house).rooms) {
          found.put(p, house);
          break;
        }
      }
    }
    lodged = found;
    return found.size();
  }

  int lodged(int person) {
    return lodged.getOrDefault(person, NONE);
  }

  // ---- exodus

  private List<Integer> here() {
    return IntStream.range(0, t.persons.size()).filter(this::thereToday).boxed().toList();
  }

  int worth(int person, int others) {
    if (!has(t.persons, person) || others < 0 || others > 99) {
      return -2;
    }
    Person p = t.persons.get(person);
    t.persons.set(person, new Person(p.village, p.rank, p.oath, p.left, others, p.wishes));
    return p.worth;
  }

  private int worthOf(int person) {
    return t.persons.get(person).worth;
  }

  private boolean stands(List<Integer> set) {
    return here().stream().allMatch(p -> set.contains(p)
        ? worthOf(p) <= set.size() - 1 : worthOf(p) > set.size());
  }

  /** A set that stands has just those who want fewer than its size: the size tells it. */
  private List<Integer> standing(int size) {
    return here().stream().filter(p -> worthOf(p) < size).collect(Collectors.toList());
  }

  private List<Integer> exodusOf(int what) {
    int all = here().size();
    for (int i = 0; i <= all; i++) {
      int size = what == 0 ? all - i : i;
      List<Integer> set = standing(size);
      if (set.size() == size && stands(set)) {
        return set;
      }
    }
    throw new IllegalStateException("no set stands");
  }

  int exodus(int what) {
    return what == 0 || what == 1 ? exodusOf(what).size() : -2;
  }

  int goes(int person, int what) {
    if (what != 0 && what != 1 || !has(t.persons, person)) {
      return -2;
    }
    return exodusOf(what).contains(person) ? 1 : 0;
  }

  int returns(int k) {
    List<Integer> away = new ArrayList<>(here());
    List<Integer> back = new ArrayList<>();
    while (true) {
      int besides = away.size() - 1;
      Integer who = away.stream().filter(p -> worthOf(p) > besides)
          .max(Comparator.comparingInt((Integer p) -> worthOf(p)).thenComparing(p -> p)).orElse(null);
      if (who == null) {
        return has(back, k) ? back.get(k) : NONE;
      }
      away.remove(who);
      back.add(who);
    }
  }

  int judge(int row) {
    List<Integer> set = IntStream.range(0, 32).filter(p -> (row & 1 << p) != 0).boxed().toList();
    if (!here().containsAll(set)) {
      return -2;
    }
    if (set.stream().anyMatch(p -> worthOf(p) > set.size() - 1)) {
      return 1;
    }
    return stands(set) ? 0 : 2;
  }

  // ---- books

  int entry(int book, int year, int mark, int land) {
    if (book < 0 || book > 1 || !sum(year) || mark < 0 || mark > 99 || land < 0 || land > 9) {
      return -2;
    }
    if (t.books.get(book).size() == 7) {
      return -3;
    }
    t.books.get(book).add(new Entry(year, mark, land));
    return t.books.get(book).size();
  }

  private static int likeness(Entry a, Entry b) {
    return (a.mark == b.mark ? 5 : 0) + (a.land == b.land ? 3 : 0)
        + Math.max(0, 4 - Math.abs(a.year - b.year));
  }

  private int best;

  /** Goes through all joinings, the first ones first. */
  int join() {
    best = -1;
    joinings(new ArrayList<>(), 0);
    return best;
  }

  private void joinings(List<Integer> soFar, int sum) {
    List<Entry> first = t.books.get(0);
    List<Entry> second = t.books.get(1);
    if (soFar.size() == first.size()) {
      if (sum > best) {
        best = sum;
        rivals = 0;
        joined = List.copyOf(soFar);
      }
      rivals += sum == best ? 1 : 0;
      return;
    }
    for (int j = 0; j <= second.size(); j++) {
      boolean none = j == second.size();
      int like = none ? 0 : likeness(first.get(soFar.size()), second.get(j));
      if (none || like >= 5 && !soFar.contains(j)) {
        soFar.add(none ? NONE : j);
        joinings(soFar, sum + like);
        soFar.remove(soFar.size() - 1);
      }
    }
  }

  int joined(int line) {
    return has(joined, line) ? joined.get(line) : NONE;
  }

  int rivals() {
    return rivals;
  }

  // ---- counts, images

  int count(int what) {
    int rows = (int) Arrays.stream(slots).filter(s -> s != null).count();
    List<Integer> all = List.of(t.today, t.villages.size(), t.persons.size(), t.statutes.size(),
        t.elections.size(), t.houses.size(), tape.length, Arrays.stream(t.purses).sum(), t.feasts,
        t.payments.size());
    if (has(all, what)) {
      return all.get(what);
    }
    return switch (what) {
      case 10 -> t.books.get(0).size();
      case 11 -> t.books.get(1).size();
      case 12 -> rows;
      case 13 -> t.masters;
      default -> NONE;
    };
  }

  int purse(int nation) {
    return nationNumber(nation) ? t.purses[nation] : -2;
  }

  int keep(int k) {
    if (k < 0 || k > 2) {
      return -2;
    }
    images[k] = t.copy();
    return 0;
  }

  int back(int k) {
    if (k < 0 || k > 2) {
      return -2;
    }
    if (images[k] == null) {
      return -6;
    }
    t = images[k].copy();
    return 0;
  }

  // ---- slots

  int row(int slot, int width, int n) {
    if (!slot(slot) || width < 0 || width > 3 || n > 60) {
      return -2;
    }
    if (n < 0) {
      return -3;
    }
    slots[slot] = switch (width) {
      case 0 -> new byte[n];
      case 1 -> new short[n];
      case 2 -> new int[n];
      default -> new long[n];
    };
    return 0;
  }

  int write(int slot, int i, long v) {
    if (!slot(slot)) {
      return -2;
    }
    if (slots[slot] == null) {
      return -6;
    }
    if (i < 0 || i >= length(slots[slot])) {
      return -7;
    }
    if (slots[slot] instanceof byte[] b) {
      b[i] = (byte) v;
    } else if (slots[slot] instanceof short[] s) {
      s[i] = (short) v;
    } else if (slots[slot] instanceof int[] n) {
      n[i] = (int) v;
    } else {
      ((long[]) slots[slot])[i] = v;
    }
    return 0;
  }

  int paste(int slot, int i, int to, int k, int n) {
    if (!slot(slot) || !slot(to)) {
      return -2;
    }
    if (slots[slot] == null || slots[to] == null) {
      return -6;
    }
    try {
      System.arraycopy(slots[slot], i, slots[to], k, n);
      return 0;
    } catch (ArrayStoreException e) {
      return -8;
    } catch (IndexOutOfBoundsException e) {
      return -7;
    }
  }
}
