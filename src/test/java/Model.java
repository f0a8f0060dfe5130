import java.util.ArrayList;
import java.util.HashMap;
import java.util.List;
import java.util.Map;
import java.util.NoSuchElementException;
import java.util.TreeMap;

/** The document once more, written as plainly as it reads, without a thought for speed or room. */
public final class Model {
  record Image(int kind, int vividness) { }

  static final class Sys {
    int keys;
    TreeMap<Integer, Integer> images = new TreeMap<>();
    int[] skills = new int[100];
  }

  static final class Laid {
    List<Integer> keys = new ArrayList<>();
    List<Integer> images = new ArrayList<>();
    Sys by;
    int when;
    int hold;
    boolean suggested;
  }

  static final class Place {
    int strength;
    boolean cue;
    ArrayList<Laid> traces = new ArrayList<>();

    Laid top() {
      return traces.isEmpty() ? null : traces.get(traces.size() - 1);
    }
  }

  static final class House {
    ArrayList<Place> places = new ArrayList<>();
    int size;
    int told;
    ArrayList<Integer> sums = new ArrayList<>();
  }

  static final class Game {
    int year;
    House house;
    Sys sys;
    List<Integer> drawn = new ArrayList<>();
    List<Integer> answers = new ArrayList<>();
    List<Integer> times = new ArrayList<>();
    List<Boolean> right = new ArrayList<>();
    int appeals;
    boolean closed;
    int score;
  }

  static final class Talk {
    int points;
    int next;
  }

  static final class Fact {
    int ease;
    int strength = 1;
    int last;
    int lapses;

    Fact copy() {
      Fact other = new Fact();
      other.ease = ease;
      other.strength = strength;
      other.last = last;
      other.lapses = lapses;
      return other;
    }

    boolean review(int now) {
      boolean right = now - last <= 4 * strength * ease;
      last = now;
      if (right) {
        strength = Math.min(64, 2 * strength);
      } else {
        strength = Math.max(1, strength / 2);
        lapses++;
      }
      return right;
    }
  }

  private final ArrayList<Image> images = new ArrayList<>();
  private final ArrayList<Sys> systems = new ArrayList<>();
  private final List<Map<Integer, Character>> tongues = List.of(new HashMap<>(), new HashMap<>(), new HashMap<>());
  private final ArrayList<House> houses = new ArrayList<>();
  private final ArrayList<Integer> pending = new ArrayList<>();
  private final TreeMap<Integer, int[]> books = new TreeMap<>();
  private final TreeMap<Integer, Integer> standards = new TreeMap<>();
  private final ArrayList<Game> games = new ArrayList<>();
  private Game closedLast;
  private final ArrayList<Talk> talks = new ArrayList<>();
  private final ArrayList<Talk> going = new ArrayList<>();
  private boolean stopped;
  private int stoppedAt;
  private final ArrayList<Fact> facts = new ArrayList<>();
  private int now;
  private int years = 20;
  private Integer lastSleep;
  private long all;

  private static void arg(boolean holds) {
    if (!holds) {
      throw new IllegalArgumentException();
    }
  }

  private static void state(boolean holds) {
    if (!holds) {
      throw new IllegalStateException();
    }
  }

  private static void there(boolean holds) {
    if (!holds) {
      throw new NoSuchElementException();
    }
  }

  private static void can(boolean holds) {
    if (!holds) {
      throw new UnsupportedOperationException();
    }
  }

  private static <T> T at(List<T> list, int index) {
    if (index < 0 || index >= list.size()) {
      throw new IndexOutOfBoundsException();
    }
    return list.get(index);
  }

  private Place place(int palace, int at) {
    return at(at(houses, palace).places, at);
  }

  public int image(int kind, int vividness) {
    arg(kind >= 0 && kind <= 4 && vividness >= 0 && vividness <= 9);
    state(images.size() < 30);
    images.add(new Image(kind, vividness));
    return images.size() - 1;
  }

  public int system(int keys) {
    arg(keys >= 1 && keys <= 3);
    state(systems.size() < 4);
    Sys sys = new Sys();
    sys.keys = keys;
    systems.add(sys);
    return systems.size() - 1;
  }

  public int learn(int system, int key, int image) {
    Sys sys = at(systems, system);
    at(images, image);
    arg(key >= 0 && key <= 99);
    sys.images.put(key, image);
    sys.skills[key] = 0;
    return sys.images.size();
  }

  public int imageOf(int system, int key) {
    Sys sys = at(systems, system);
    arg(key >= 0 && key <= 99);
    there(sys.images.containsKey(key));
    return sys.images.get(key);
  }

  public int skill(int system, int key) {
    Sys sys = at(systems, system);
    arg(key >= 0 && key <= 99);
    return sys.skills[key];
  }

  public int tongue(int tongue, int digit, char letter) {
    arg(tongue >= 0 && tongue <= 2 && digit >= 0 && digit <= 9 && letter >= 'a' && letter <= 'z');
    Map<Integer, Character> map = tongues.get(tongue);
    for (int other = 0; other < 10; other++) {
      can(other == digit || !Character.valueOf(letter).equals(map.get(other)));
    }
    map.put(digit, letter);
    return map.size();
  }

  private String spelled(int tongue, int key) {
    Character tens = tongues.get(tongue).get(key / 10);
    Character ones = tongues.get(tongue).get(key % 10);
    return tens == null || ones == null ? null : "" + tens + ones;
  }

  public int takeOver(int system, int from, int tongue, int other) {
    Sys sys = at(systems, system);
    Sys source = at(systems, from);
    arg(tongue >= 0 && tongue <= 2 && other >= 0 && other <= 2 && system != from);
    int taken = 0;
    for (int key = 0; key < 100; key++) {
      for (int like = 0; like < 100; like++) {
        String word = spelled(tongue, key);
        if (word != null && word.equals(spelled(other, like)) && source.images.containsKey(like)) {
          sys.images.put(key, source.images.get(like));
          sys.skills[key] = source.skills[like] / 2;
          taken++;
        }
      }
    }
    return taken;
  }

  private static int trained(Sys sys, int[] skills, int hours) {
    int used = 0;
    for (int hour = 0; hour < hours; hour++) {
      int best = -1;
      for (int key : sys.images.keySet()) {
        if (skills[key] < 9 && (best < 0 || skills[key] < skills[best])) {
          best = key;
        }
      }
      if (best >= 0) {
        skills[best]++;
        used++;
      }
    }
    return used;
  }

  private int cost(Sys sys, int[] skills) {
    int sum = 0;
    for (int key : sys.images.keySet()) {
      sum += cost(sys, key, skills);
    }
    return sum;
  }

  private int cost(Sys sys, int key, int[] skills) {
    return 40 - 2 * images.get(sys.images.get(key)).vividness() - 2 * skills[key];
  }

  public int train(int system, int hours) {
    Sys sys = at(systems, system);
    arg(hours >= 1 && hours <= 200);
    now += hours;
    return trained(sys, sys.skills, hours);
  }

  public float saved(int system, int hours, int keys) {
    Sys sys = at(systems, system);
    arg(hours >= 1 && hours <= 200 && keys >= 1 && keys <= 9999);
    there(!sys.images.isEmpty());
    int[] skills = sys.skills.clone();
    float before = cost(sys, skills);
    trained(sys, skills, hours);
    float behind = cost(sys, skills);
    float left = before - behind;
    left = left * keys;
    return left / sys.images.size();
  }

  public boolean paysBack(int system, int to, int hours) {
    Sys sys = at(systems, system);
    Sys other = at(systems, to);
    arg(hours >= 0 && hours <= 200);
    there(!sys.images.isEmpty() && !other.images.isEmpty());
    int[] skills = sys.skills.clone();
    trained(sys, skills, hours);
    int[] others = other.skills.clone();
    trained(other, others, hours);
    return (long) cost(other, others) * sys.images.size() < (long) cost(sys, skills) * other.images.size();
  }

  public int palace() {
    state(houses.size() < 4);
    houses.add(new House());
    return houses.size() - 1;
  }

  public int locus(int palace, int strength) {
    House house = at(houses, palace);
    arg(strength >= 1 && strength <= 9);
    state(house.places.size() < 12);
    Place place = new Place();
    place.strength = strength;
    house.places.add(place);
    return house.places.size();
  }

  public boolean cue(int palace, int at, boolean has) {
    Place place = place(palace, at);
    boolean had = place.cue;
    place.cue = has;
    return had;
  }

  public int key(int key) {
    arg(key >= 0 && key <= 99);
    state(pending.size() < 3);
    pending.add(key);
    return pending.size();
  }

  private int put(Place place, Sys sys, List<Integer> keys, boolean suggested) {
    Laid laid = new Laid();
    laid.by = sys;
    laid.when = now;
    laid.suggested = suggested;
    int cost = 0;
    java.util.HashSet<Integer> kinds = new java.util.HashSet<>();
    for (int key : keys) {
      laid.keys.add(key);
      laid.images.add(sys.images.get(key));
      kinds.add(images.get(sys.images.get(key)).kind());
      cost += cost(sys, key, sys.skills);
    }
    int hold = 10 * place.strength + 5 * images.get(laid.images.get(0)).vividness();
    if (keys.size() >= 2 && kinds.size() == keys.size()) {
      hold += 10;
    }
    laid.hold = Math.min(200, hold);
    place.traces.add(laid);
    if (place.traces.size() > 6) {
      place.traces.remove(0);
    }
    all += cost;
    return cost;
  }

  public int lay(int palace, int at, int system, boolean isSuggested) {
    Place place = place(palace, at);
    Sys sys = at(systems, system);
    can(!pending.isEmpty() && pending.size() <= sys.keys);
    for (int key : pending) {
      can(sys.images.containsKey(key));
    }
    int cost = put(place, sys, pending, isSuggested);
    pending.clear();
    return cost;
  }

  public int traces(int palace, int at) {
    return place(palace, at).traces.size();
  }

  private int kind(Laid laid) {
    return images.get(laid.images.get(0)).kind();
  }

  private float held(House house, int at, Laid laid) {
    int likes = 0;
    for (House other : houses) {
      if (other != house) {
        for (Place place : other.places) {
          if (place.top() != null && place.top().images.get(0).equals(laid.images.get(0))) {
            likes++;
          }
        }
      }
    }
    int beside = 0;
    for (int place = 0; place < house.places.size(); place++) {
      Laid top = house.places.get(place).top();
      if (Math.abs(place - at) == 1 && top != null && kind(top) == kind(laid)) {
        beside++;
      }
    }
    float hold = laid.hold;
    hold = hold * 20;
    hold = hold / (20 + now - laid.when);
    hold = hold - 2 * likes;
    hold = hold - 3 * beside;
    if (years > 60) {
      hold = hold - (years - 60) / 5;
    }
    if (house.places.get(at).cue) {
      hold = hold + 5;
    }
    return Math.max(0f, hold);
  }

  public float hold(int palace, int at, int trace) {
    Place place = place(palace, at);
    there(trace >= 0 && trace < place.traces.size());
    return held(houses.get(palace), at, place.traces.get(place.traces.size() - 1 - trace));
  }

  /** The sign of a locus and, behind it, the keys that it tells, -1 for a missing one. */
  private int[] told(House house, int at, boolean withParity) {
    Place place = house.places.get(at);
    for (int slot = place.traces.size() - 1; slot >= 0; slot--) {
      Laid laid = place.traces.get(slot);
      if (held(house, at, laid) >= 20) {
        char sign = laid != place.top() ? 'g' : laid.suggested ? 'f' : 'r';
        int[] told = {sign, -1, -1, -1};
        for (int which = 0; which < laid.keys.size(); which++) {
          told[which + 1] = laid.keys.get(which);
        }
        return told;
      }
    }
    Laid top = place.top();
    if (top != null && held(house, at, top) >= 10) {
      int[] told = {'p', -1, -1, -1};
      for (int which = 0; which < top.keys.size(); which++) {
        int kind = images.get(top.images.get(which)).kind();
        for (int key = 99; key >= 0; key--) {
          if (top.by.images.containsKey(key) && images.get(top.by.images.get(key)).kind() == kind) {
            told[which + 1] = key;
          }
        }
      }
      return told;
    }
    int inferred = withParity && top != null && house.size > 0 && at < house.told ? inferred(house, at) : -1;
    return new int[] {inferred < 0 ? '-' : 'i', inferred, -1, -1};
  }

  private int inferred(House house, int at) {
    int group = at / house.size;
    int missing = 0;
    int recalled = 0;
    int others = 0;
    int members = 0;
    for (int place = 0; place < house.told; place++) {
      if (place / house.size == group) {
        int[] told = told(house, place, false);
        members++;
        missing += told[0] == '-' ? 1 : 0;
        recalled += told[0] == 'r' ? 1 : 0;
        others += told[0] == 'r' ? told[1] : 0;
      }
    }
    if (missing != 1 || recalled != members - 1) {
      return -1;
    }
    for (int key = 0; key < 100; key++) {
      if ((others + key) % 100 == house.sums.get(group) && house.places.get(at).top().by.images.containsKey(key)) {
        return key;
      }
    }
    return -1;
  }

  public char recall(int palace, int at) {
    place(palace, at);
    return (char) told(houses.get(palace), at, true)[0];
  }

  public int recalled(int palace, int at, int which) {
    place(palace, at);
    arg(which >= 0 && which <= 2);
    int key = told(houses.get(palace), at, true)[which + 1];
    there(key >= 0);
    return key;
  }

  public int walk(int palace) {
    House house = at(houses, palace);
    int count = 0;
    for (int at = 0; at < house.places.size(); at++) {
      char sign = (char) told(house, at, true)[0];
      if (sign == 'r' || sign == 'f') {
        Laid top = house.places.get(at).top();
        top.hold = Math.min(200, top.hold + 10);
        top.when = now;
        count++;
      }
    }
    return count;
  }

  public int groups(int palace, int size) {
    House house = at(houses, palace);
    arg(size == 0 || size == 2 || size == 3 || size == 4);
    house.size = size;
    house.told = house.places.size();
    house.sums.clear();
    for (int from = 0; size > 0 && from < house.told; from += size) {
      int sum = 0;
      for (int at = from; at < from + size && at < house.told; at++) {
        Laid top = house.places.get(at).top();
        sum += top == null ? 0 : top.keys.get(0);
      }
      house.sums.add(sum % 100);
    }
    return house.sums.size();
  }

  public int wipe(int palace, int at) {
    Place place = place(palace, at);
    if (place.top() != null) {
      place.traces.remove(place.traces.size() - 1);
    }
    return place.traces.size();
  }

  public int pass(int hours) {
    arg(hours >= 1 && hours <= 999);
    now += hours;
    return now;
  }

  public int sleep(int hours) {
    arg(hours >= 1 && hours <= 16);
    now += hours;
    if (hours < 6) {
      return 0;
    }
    int more = 0;
    for (House house : houses) {
      for (Place place : house.places) {
        for (Laid laid : place.traces) {
          if ((lastSleep == null || laid.when >= lastSleep) && laid.hold < 200) {
            laid.hold = Math.min(200, laid.hold + 8);
            more++;
          }
        }
      }
    }
    lastSleep = now;
    return more;
  }

  public int age(int years) {
    arg(years >= 0 && years <= 120);
    int before = this.years;
    this.years = years;
    return before;
  }

  public int book(int year, int row, char slips) {
    arg(year >= 0 && year <= 9999 && row >= 1 && row <= 20 && (slips == 'h' || slips == 'z' || slips == 'f'));
    state(books.containsKey(year) || books.size() < 8);
    books.put(year, new int[] {row, slips});
    return books.size();
  }

  public int standard(int year, int score) {
    arg(year >= 0 && year <= 9999 && score >= 1 && score <= 999);
    state(standards.containsKey(year) || standards.size() < 8);
    standards.put(year, score);
    return standards.size();
  }

  private Game last() {
    return games.isEmpty() ? null : games.get(games.size() - 1);
  }

  private boolean open() {
    return last() != null && !last().closed;
  }

  public int contest(int year, int seed, int palace, int system, int keys) {
    House house = at(houses, palace);
    Sys sys = at(systems, system);
    arg(year >= 0 && year <= 9999 && seed >= 0 && keys >= 1 && keys <= 36);
    can(!open() && (keys + sys.keys - 1) / sys.keys <= house.places.size());
    Game game = new Game();
    java.math.BigInteger z = java.math.BigInteger.valueOf(seed);
    int vain = 0;
    while (game.drawn.size() < keys) {
      z = z.multiply(java.math.BigInteger.valueOf(1103515245)).add(java.math.BigInteger.valueOf(12345)).mod(java.math.BigInteger.TWO.pow(31));
      int key = (int) (z.longValue() / 65536 % 100);
      if (sys.images.containsKey(key)) {
        game.drawn.add(key);
        vain = 0;
      } else {
        vain++;
        there(vain < 100);
      }
    }
    game.year = year;
    game.house = house;
    game.sys = sys;
    games.add(game);
    int cost = 0;
    for (int from = 0; from < keys; from += sys.keys) {
      cost += put(house.places.get(from / sys.keys), sys, game.drawn.subList(from, Math.min(keys, from + sys.keys)), false);
    }
    return cost;
  }

  public int drawn(int index) {
    there(last() != null && index >= 0 && index < last().drawn.size());
    return last().drawn.get(index);
  }

  private boolean give(int key, int tenths) {
    Game game = last();
    boolean right = game.drawn.get(game.answers.size()) == key;
    game.answers.add(key);
    game.times.add(tenths);
    game.right.add(right);
    return right;
  }

  public int answer(int key, int tenths) {
    there(open());
    arg(key >= -1 && key <= 99 && tenths >= 0 && tenths <= 9999);
    state(last().answers.size() < last().drawn.size());
    give(key, tenths);
    return last().answers.size();
  }

  public int answerAll(int tenths) {
    there(open());
    arg(tenths >= 0 && tenths <= 9999);
    Game game = last();
    int right = 0;
    while (game.answers.size() < game.drawn.size()) {
      int index = game.answers.size();
      int key = told(game.house, index / game.sys.keys, true)[index % game.sys.keys + 1];
      right += give(key, tenths) ? 1 : 0;
    }
    return right;
  }

  public boolean appeal(int index) {
    there(open() && index >= 0 && index < last().answers.size());
    Game game = last();
    can(game.appeals < 2 && !game.right.get(index));
    game.appeals++;
    int key = game.drawn.get(index);
    if (game.answers.get(index) == 10 * (key % 10) + key / 10) {
      game.right.set(index, true);
    }
    return game.right.get(index);
  }

  public int close() {
    there(open());
    Game game = last();
    state(game.answers.size() == game.drawn.size());
    int[] book = books.floorEntry(game.year) == null ? new int[] {5, 'h'} : books.floorEntry(game.year).getValue();
    game.closed = true;
    game.score = score(game, book[0], (char) book[1]);
    closedLast = game;
    return game.score;
  }

  private static int score(Game game, int row, char slips) {
    if (slips == 'f') {
      int slip = game.right.indexOf(false);
      return slip < 0 ? game.right.size() : slip;
    }
    int score = 0;
    for (int from = 0; from < game.right.size(); from += row) {
      // One letter an answer: r right, m missing, w wrong.
      StringBuilder letters = new StringBuilder();
      for (int at = from; at < from + row && at < game.right.size(); at++) {
        letters.append(game.right.get(at) ? 'r' : game.answers.get(at) == -1 ? 'm' : 'w');
      }
      String word = letters.toString();
      String rights = word.replaceAll("[mw]", "");
      if (word.matches("r*")) {
        score += word.length();
      } else if (slips == 'h' && word.matches("r*m*")) {
        score += rights.length();
      } else if (slips == 'h' && rights.length() == word.length() - 1) {
        score += word.length() / 2 + word.length() % 2;
      }
    }
    return score;
  }

  public int points() {
    there(closedLast != null);
    Map.Entry<Integer, Integer> told = standards.floorEntry(closedLast.year);
    return 1000 * closedLast.score / (told == null ? 10 : told.getValue());
  }

  public int record(int year) {
    arg(year >= 0 && year <= 9999);
    int best = -1;
    for (Game game : games) {
      if (game.closed && game.year <= year) {
        best = Math.max(best, game.score);
      }
    }
    there(best >= 0);
    return best;
  }

  public boolean isSuspect() {
    there(last() != null);
    Game game = last();
    int right = 0;
    int fast = 0;
    for (int index = 0; index < game.answers.size(); index++) {
      if (game.right.get(index)) {
        right++;
        fast += game.times.get(index) < 12 - game.sys.skills[game.drawn.get(index)] ? 1 : 0;
      }
    }
    return fast > right / 2.0;
  }

  public int speech(int palace, int points) {
    House house = at(houses, palace);
    arg(points >= 1 && points <= 12 && points <= house.places.size());
    state(talks.size() < 4);
    Talk talk = new Talk();
    talk.points = points;
    talks.add(talk);
    return talks.size() - 1;
  }

  public int speak(int speech) {
    Talk talk = at(talks, speech);
    can(!going.contains(talk) && going.size() < 4 && !stopped);
    talk.next = 0;
    going.add(talk);
    return going.size();
  }

  public int point() {
    there(!going.isEmpty() && !stopped);
    Talk talk = going.get(going.size() - 1);
    int point = talk.next++;
    if (talk.next == talk.points) {
      going.remove(talk);
    }
    return point;
  }

  public int interrupt() {
    there(!going.isEmpty() && !stopped);
    stopped = true;
    stoppedAt = now;
    Talk talk = going.get(going.size() - 1);
    return talk.points - talk.next;
  }

  public int resume() {
    there(stopped);
    stopped = false;
    Talk talk = going.get(going.size() - 1);
    if (now - stoppedAt > 2 && talk.next > 0) {
      talk.next--;
    }
    return talk.next;
  }

  public int fact(int ease) {
    arg(ease >= 1 && ease <= 5);
    state(facts.size() < 12);
    Fact fact = new Fact();
    fact.ease = ease;
    fact.last = now;
    facts.add(fact);
    return facts.size() - 1;
  }

  public boolean review(int fact) {
    return at(facts, fact).review(now);
  }

  public int strength(int fact) {
    return at(facts, fact).strength;
  }

  public boolean isDue(int fact) {
    return at(facts, fact).copy().review(now) && !facts.get(fact).copy().review(now + 1);
  }

  public int leeches() {
    int bits = 0;
    for (int fact = 0; fact < facts.size(); fact++) {
      bits += facts.get(fact).lapses >= 3 ? 1 << fact : 0;
    }
    return bits;
  }

  /** The best plan: its sum ahead of its facts, none as the number behind the last fact. */
  private int[] best(int hours) {
    int none = facts.size();
    int plans = 1;
    for (int hour = 0; hour < hours; hour++) {
      plans *= none + 1;
    }
    int[] best = null;
    int fewest = 0;
    for (int plan = 0; plan < plans; plan++) {
      ArrayList<Fact> trial = new ArrayList<>();
      for (Fact fact : facts) {
        trial.add(fact.copy());
      }
      int[] told = new int[hours + 1];
      int rest = plan;
      for (int hour = hours - 1; hour >= 0; hour--) {
        told[hour + 1] = rest % (none + 1);
        rest /= none + 1;
      }
      int reviews = 0;
      for (int hour = 0; hour < hours; hour++) {
        if (told[hour + 1] < none) {
          trial.get(told[hour + 1]).review(now + hour);
          reviews++;
        }
      }
      for (Fact fact : trial) {
        told[0] += fact.strength;
      }
      if (best == null || told[0] > best[0] || told[0] == best[0] && reviews < fewest) {
        best = told;
        fewest = reviews;
      }
    }
    return best;
  }

  public int bestSum(int hours) {
    arg(hours >= 1 && hours <= 5);
    state(facts.size() <= 4);
    there(!facts.isEmpty());
    return best(hours)[0];
  }

  public int bestAt(int hours, int hour) {
    arg(hours >= 1 && hours <= 5 && hour >= 0 && hour < hours);
    state(facts.size() <= 4);
    there(!facts.isEmpty());
    int fact = best(hours)[hour + 1];
    return fact == facts.size() ? -1 : fact;
  }

  public long tenths() {
    return all;
  }

  public float heldShare() {
    int laid = 0;
    int recalled = 0;
    for (House house : houses) {
      for (int at = 0; at < house.places.size(); at++) {
        laid += house.places.get(at).top() == null ? 0 : 1;
        recalled += told(house, at, true)[0] == 'r' ? 1 : 0;
      }
    }
    if (laid == 0) {
      throw new ArithmeticException();
    }
    return (float) recalled / (float) laid;
  }

  public double meanHold() {
    double sum = 0;
    int laid = 0;
    for (House house : houses) {
      for (int at = 0; at < house.places.size(); at++) {
        Laid top = house.places.get(at).top();
        if (top != null) {
          sum += held(house, at, top);
          laid++;
        }
      }
    }
    if (laid == 0) {
      throw new ArithmeticException();
    }
    return sum / laid;
  }

  public boolean isConsistent() {
    return true;
  }
}
