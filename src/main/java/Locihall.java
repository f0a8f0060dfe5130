import java.util.Arrays;
import java.util.NoSuchElementException;

/** A hall of memory: images, palaces, contests, speeches and facts, by the promises of DOC.md. */
public final class Locihall {
  private static final int NONE = -1;
  private static final int MOST_IMAGES = 30;
  private static final int MOST_SYSTEMS = 4;
  private static final int KEYS = 100;
  private static final int BEST_SKILL = 9;
  private static final int MOST_KEYS_AT_LOCUS = 3;
  private static final int TONGUES = 3;
  private static final int DIGITS = 10;
  private static final int MOST_PALACES = 4;
  private static final int MOST_LOCI = 12;
  private static final int MOST_TRACES = 6;
  private static final int MOST_HOLD = 200;
  private static final int LAST_YEAR = 9999;
  private static final int MOST_TENTHS = 9999;
  private static final int MOST_YEAR_ROWS = 8;
  private static final int MOST_DRAWN = 36;
  private static final int MOST_CALLS = 512;
  private static final int MOST_SPEECHES = 4;
  private static final int MOST_FACTS = 12;
  private static final int MOST_PLANNED_FACTS = 4;
  private static final int MOST_PLANNED_HOURS = 5;

  private final Images images;
  private final Tongues tongues;
  private final Table[] tables;
  private int tableCount;
  private final Mind mind;
  private final int[] nextKeys;
  private int nextKeyCount;
  private final YearRows books;
  private final YearRows standards;
  private final Contest match;
  private final Stage stage;
  private final Facts facts;
  private long tenthsInAll;

  public Locihall() {
    images = new Images();
    tongues = new Tongues();
    tables = new Table[MOST_SYSTEMS];
    mind = new Mind(images);
    nextKeys = new int[MOST_KEYS_AT_LOCUS];
    books = new YearRows();
    standards = new YearRows();
    match = new Contest();
    stage = new Stage();
    facts = new Facts();
  }

  // ---- images, systems, tongues

  public int image(int kind, int vividness) throws IllegalArgumentException, IllegalStateException {
    if (!isIn(kind, 0, 4) || !isIn(vividness, 0, 9)) {
      throw new IllegalArgumentException("no such kind or vividness");
    }
    if (images.count >= MOST_IMAGES) {
      throw new IllegalStateException("there are 30 images");
    }
    return images.add(kind, vividness);
  }

  public int system(int keys) throws IllegalArgumentException, IllegalStateException {
    if (!isIn(keys, 1, MOST_KEYS_AT_LOCUS)) {
      throw new IllegalArgumentException("a system lays 1 to 3 keys");
    }
    if (tableCount >= tables.length) {
      throw new IllegalStateException("there are 4 systems");
    }
    tables[tableCount] = new Table(keys);
    return tableCount++;
  }

  public int learn(int system, int key, int image) throws IndexOutOfBoundsException, IllegalArgumentException {
    Table table = tableAt(system);
    if (table == null || !images.has(image)) {
      throw new IndexOutOfBoundsException("no such system or image");
    }
    if (!isKey(key)) {
      throw new IllegalArgumentException("no such key");
    }
    table.put(key, image, 0);
    return table.countImages();
  }

  public int imageOf(int system, int key) throws IndexOutOfBoundsException, IllegalArgumentException, NoSuchElementException {
    Table table = tableAt(system);
    if (table == null) {
      throw new IndexOutOfBoundsException("no such system");
    }
    if (!isKey(key)) {
      throw new IllegalArgumentException("no such key");
    }
    if (!table.hasImage(key)) {
      throw new NoSuchElementException("the key has no image");
    }
    return table.imageAt(key);
  }

  public int skill(int system, int key) throws IndexOutOfBoundsException, IllegalArgumentException {
    Table table = tableAt(system);
    if (table == null) {
      throw new IndexOutOfBoundsException("no such system");
    }
    if (!isKey(key)) {
      throw new IllegalArgumentException("no such key");
    }
    return table.skillAt(key);
  }

  public int tongue(int tongue, int digit, char letter) throws IllegalArgumentException, UnsupportedOperationException {
    if (!isTongue(tongue) || !isIn(digit, 0, DIGITS - 1) || letter < 'a' || letter > 'z') {
      throw new IllegalArgumentException("no such tongue, digit or letter");
    }
    int taken = tongues.digitOf(tongue, letter);
    if (taken != NONE && taken != digit) {
      throw new UnsupportedOperationException("another digit has this letter");
    }
    tongues.put(tongue, digit, letter);
    return tongues.countLetters(tongue);
  }

  public int takeOver(int system, int from, int tongue, int other) throws IndexOutOfBoundsException, IllegalArgumentException {
    Table table = tableAt(system);
    Table source = tableAt(from);
    if (table == null || source == null) {
      throw new IndexOutOfBoundsException("no such system");
    }
    if (!isTongue(tongue) || !isTongue(other) || system == from) {
      throw new IllegalArgumentException("no such tongue, or twice the same system");
    }
    int taken = 0;
    for (int key = 0; key < KEYS; key++) {
      int like = tongues.sameSpelling(key, tongue, other);
      if (like != NONE && source.hasImage(like)) {
        table.put(key, source.imageAt(like), source.skillAt(like) / 2);
        taken++;
      }
    }
    return taken;
  }

  public int train(int system, int hours) throws IndexOutOfBoundsException, IllegalArgumentException {
    Table table = tableAt(system);
    if (table == null) {
      throw new IndexOutOfBoundsException("no such system");
    }
    if (!isIn(hours, 1, 200)) {
      throw new IllegalArgumentException("1 to 200 hours");
    }
    mind.hour += hours;
    return table.spendHours(hours);
  }

  public float saved(int system, int hours, int keys) throws IndexOutOfBoundsException, IllegalArgumentException, NoSuchElementException {
    Table table = tableAt(system);
    if (table == null) {
      throw new IndexOutOfBoundsException("no such system");
    }
    if (!isIn(hours, 1, 200) || !isIn(keys, 1, 9999)) {
      throw new IllegalArgumentException("1 to 200 hours, 1 to 9999 keys");
    }
    int count = table.countImages();
    if (count == 0) {
      throw new NoSuchElementException("no key has an image");
    }
    float now = (float) table.tenthsAfter(images, 0);
    float later = (float) table.tenthsAfter(images, hours);
    return (now - later) * (float) keys / (float) count;
  }

  public boolean paysBack(int system, int to, int hours) throws IndexOutOfBoundsException, IllegalArgumentException, NoSuchElementException {
    Table here = tableAt(system);
    Table there = tableAt(to);
    if (here == null || there == null) {
      throw new IndexOutOfBoundsException("no such system");
    }
    if (!isIn(hours, 0, 200)) {
      throw new IllegalArgumentException("0 to 200 hours");
    }
    int keysHere = here.countImages();
    int keysThere = there.countImages();
    if (keysHere == 0 || keysThere == 0) {
      throw new NoSuchElementException("no key has an image");
    }
    // The means are compared as fractions, so both sides are multiplied by both numbers of keys.
    return there.tenthsAfter(images, hours) * keysHere < here.tenthsAfter(images, hours) * keysThere;
  }

  // ---- palaces and traces

  public int palace() throws IllegalStateException {
    if (mind.palaceCount >= MOST_PALACES) {
      throw new IllegalStateException("there are 4 palaces");
    }
    return mind.addPalace();
  }

  public int locus(int palace, int strength) throws IndexOutOfBoundsException, IllegalArgumentException, IllegalStateException {
    Palace house = mind.palaceAt(palace);
    if (house == null) {
      throw new IndexOutOfBoundsException("no such palace");
    }
    if (!isIn(strength, 1, 9)) {
      throw new IllegalArgumentException("a strength is 1 to 9");
    }
    if (house.count >= MOST_LOCI) {
      throw new IllegalStateException("there are 12 loci");
    }
    return house.addLocus(strength);
  }

  public boolean cue(int palace, int at, boolean has) throws IndexOutOfBoundsException {
    Locus place = mind.locusAt(palace, at);
    if (place == null) {
      throw new IndexOutOfBoundsException("no such palace or locus");
    }
    boolean had = place.hasCue;
    place.hasCue = has;
    return had;
  }

  public int key(int key) throws IllegalArgumentException, IllegalStateException {
    if (!isKey(key)) {
      throw new IllegalArgumentException("no such key");
    }
    if (nextKeyCount >= nextKeys.length) {
      throw new IllegalStateException("there are 3 keys");
    }
    nextKeys[nextKeyCount] = key;
    nextKeyCount++;
    return nextKeyCount;
  }

  public int lay(int palace, int at, int system, boolean isSuggested) throws IndexOutOfBoundsException, UnsupportedOperationException {
    Locus place = mind.locusAt(palace, at);
    Table table = tableAt(system);
    if (place == null || table == null) {
      throw new IndexOutOfBoundsException("no such palace, locus or system");
    }
    if (nextKeyCount == 0 || nextKeyCount > table.keysAtLocus || !haveImages(table)) {
      throw new UnsupportedOperationException("no keys, too many, or one without an image");
    }
    int taken = mind.layTrace(place, table, nextKeys, 0, nextKeyCount, isSuggested);
    nextKeyCount = 0;
    tenthsInAll += taken;
    return taken;
  }

  public int traces(int palace, int at) throws IndexOutOfBoundsException {
    Locus place = mind.locusAt(palace, at);
    if (place == null) {
      throw new IndexOutOfBoundsException("no such palace or locus");
    }
    return place.height;
  }

  public float hold(int palace, int at, int trace) throws IndexOutOfBoundsException, NoSuchElementException {
    Palace house = mind.palaceAt(palace);
    Locus place = mind.locusAt(palace, at);
    if (house == null || place == null) {
      throw new IndexOutOfBoundsException("no such palace or locus");
    }
    Trace asked = place.fromTop(trace);
    if (asked == null) {
      throw new NoSuchElementException("no such trace");
    }
    return mind.holdNow(house, at, asked);
  }

  public char recall(int palace, int at) throws IndexOutOfBoundsException {
    Palace house = mind.palaceAt(palace);
    if (house == null || mind.locusAt(palace, at) == null) {
      throw new IndexOutOfBoundsException("no such palace or locus");
    }
    return mind.signOf(house, at);
  }

  public int recalled(int palace, int at, int which) throws IndexOutOfBoundsException, IllegalArgumentException, NoSuchElementException {
    Palace house = mind.palaceAt(palace);
    if (house == null || mind.locusAt(palace, at) == null) {
      throw new IndexOutOfBoundsException("no such palace or locus");
    }
    if (!isIn(which, 0, MOST_KEYS_AT_LOCUS - 1)) {
      throw new IllegalArgumentException("a locus has the keys 0 to 2");
    }
    int told = mind.toldKey(house, at, which);
    if (told == NONE) {
      throw new NoSuchElementException("no such key, or it is missing");
    }
    return told;
  }

  public int walk(int palace) throws IndexOutOfBoundsException {
    Palace house = mind.palaceAt(palace);
    if (house == null) {
      throw new IndexOutOfBoundsException("no such palace");
    }
    return mind.walkThrough(house);
  }

  public int groups(int palace, int size) throws IndexOutOfBoundsException, IllegalArgumentException {
    Palace house = mind.palaceAt(palace);
    if (house == null) {
      throw new IndexOutOfBoundsException("no such palace");
    }
    if (size != 0 && !isIn(size, 2, 4)) {
      throw new IllegalArgumentException("a size is 0, or 2 to 4");
    }
    return house.tellGroups(size);
  }

  public int wipe(int palace, int at) throws IndexOutOfBoundsException {
    Locus place = mind.locusAt(palace, at);
    if (place == null) {
      throw new IndexOutOfBoundsException("no such palace or locus");
    }
    if (place.height > 0) {
      place.height--;
    }
    return place.height;
  }

  public int pass(int hours) throws IllegalArgumentException {
    if (!isIn(hours, 1, 999)) {
      throw new IllegalArgumentException("1 to 999 hours");
    }
    mind.hour += hours;
    return mind.hour;
  }

  public int sleep(int hours) throws IllegalArgumentException {
    if (!isIn(hours, 1, 16)) {
      throw new IllegalArgumentException("1 to 16 hours");
    }
    mind.hour += hours;
    return hours >= 6 ? mind.strengthenBySleep() : 0;
  }

  public int age(int years) throws IllegalArgumentException {
    if (!isIn(years, 0, 120)) {
      throw new IllegalArgumentException("0 to 120 years");
    }
    int before = mind.years;
    mind.years = years;
    return before;
  }

  // ---- contests

  public int book(int year, int row, char slips) throws IllegalArgumentException, IllegalStateException {
    if (!isYear(year) || !isIn(row, 1, 20) || (slips != 'h' && slips != 'z' && slips != 'f')) {
      throw new IllegalArgumentException("no such year, row or way to count slips");
    }
    if (books.isFullFor(year)) {
      throw new IllegalStateException("there are 8 other books");
    }
    return books.put(year, row, slips);
  }

  public int standard(int year, int score) throws IllegalArgumentException, IllegalStateException {
    if (!isYear(year) || !isIn(score, 1, 999)) {
      throw new IllegalArgumentException("no such year or score");
    }
    if (standards.isFullFor(year)) {
      throw new IllegalStateException("there are 8 other standards");
    }
    return standards.put(year, score, 0);
  }

  public int contest(int year, int seed, int palace, int system, int keys) throws IndexOutOfBoundsException, IllegalArgumentException, UnsupportedOperationException, NoSuchElementException {
    Palace house = mind.palaceAt(palace);
    Table table = tableAt(system);
    if (house == null || table == null) {
      throw new IndexOutOfBoundsException("no such palace or system");
    }
    if (!isYear(year) || seed < 0 || !isIn(keys, 1, MOST_DRAWN)) {
      throw new IllegalArgumentException("no such year, seed or number of keys");
    }
    if (match.isOpen || keys > house.count * table.keysAtLocus) {
      throw new UnsupportedOperationException("a contest is not closed, or there is no room");
    }
    if (!match.draw(table, seed, keys)) {
      throw new NoSuchElementException("keys cannot be drawn");
    }
    match.begin(year, house, table, keys);
    int taken = mind.layAlong(house, table, match.drawnKeys, keys);
    tenthsInAll += taken;
    return taken;
  }

  public int drawn(int index) throws NoSuchElementException {
    if (index < 0 || index >= match.count || index >= match.drawnKeys.length) {
      throw new NoSuchElementException("no such key was drawn");
    }
    return match.drawnKeys[index];
  }

  public int answer(int key, int tenths) throws NoSuchElementException, IllegalArgumentException, IllegalStateException {
    if (!match.isOpen) {
      throw new NoSuchElementException("no contest is open");
    }
    if ((key != NONE && !isKey(key)) || !isIn(tenths, 0, MOST_TENTHS)) {
      throw new IllegalArgumentException("no such key or tenths");
    }
    if (match.given >= match.count) {
      throw new IllegalStateException("all answers are given");
    }
    match.give(key, tenths);
    return match.given;
  }

  public int answerAll(int tenths) throws NoSuchElementException, IllegalArgumentException {
    if (!match.isOpen) {
      throw new NoSuchElementException("no contest is open");
    }
    if (!isIn(tenths, 0, MOST_TENTHS)) {
      throw new IllegalArgumentException("no such tenths");
    }
    int keysAtLocus = match.keysAtLocus();
    int right = 0;
    for (int index = match.given; index < match.count; index++) {
      int told = mind.toldKey(match.house, index / keysAtLocus, index % keysAtLocus);
      if (match.give(told, tenths)) {
        right++;
      }
    }
    return right;
  }

  public boolean appeal(int index) throws NoSuchElementException, UnsupportedOperationException {
    if (!match.isOpen || index < 0 || index >= match.given) {
      throw new NoSuchElementException("no contest is open, or no such answer");
    }
    if (match.appeals >= 2 || match.isRightAt(index)) {
      throw new UnsupportedOperationException("two appeals were heard, or the answer is right");
    }
    return match.hear(index);
  }

  public int close() throws NoSuchElementException, IllegalStateException {
    if (!match.isOpen) {
      throw new NoSuchElementException("no contest is open");
    }
    if (match.given < match.count) {
      throw new IllegalStateException("answers are missing yet");
    }
    int held = books.latest(match.year);
    int row = books.firstAt(held, 5);
    int slips = books.secondAt(held, 'h');
    return match.end(match.score(row, slips));
  }

  public int points() throws NoSuchElementException {
    if (match.closedCount == 0) {
      throw new NoSuchElementException("no contest was closed");
    }
    int score = standards.firstAt(standards.latest(match.closedYear), 10);
    return score > 0 ? 1000 * match.closedScore / score : 0;
  }

  public int record(int year) throws IllegalArgumentException, NoSuchElementException {
    if (!isYear(year)) {
      throw new IllegalArgumentException("no such year");
    }
    int best = match.bestUpTo(year);
    if (best == NONE) {
      throw new NoSuchElementException("there is no record");
    }
    return best;
  }

  public boolean isSuspect() throws NoSuchElementException {
    if (match.count == 0) {
      throw new NoSuchElementException("there was no contest");
    }
    return match.isTooFast();
  }

  // ---- speeches and facts

  public int speech(int palace, int points) throws IndexOutOfBoundsException, IllegalArgumentException, IllegalStateException {
    Palace house = mind.palaceAt(palace);
    if (house == null) {
      throw new IndexOutOfBoundsException("no such palace");
    }
    if (!isIn(points, 1, MOST_LOCI) || points > house.count) {
      throw new IllegalArgumentException("no such number of points, or not so many loci");
    }
    if (stage.count >= MOST_SPEECHES) {
      throw new IllegalStateException("there are 4 speeches");
    }
    return stage.add(points);
  }

  public int speak(int speech) throws IndexOutOfBoundsException, UnsupportedOperationException {
    if (speech < 0 || speech >= stage.count) {
      throw new IndexOutOfBoundsException("no such speech");
    }
    if (stage.goesOn(speech) || stage.depth >= MOST_SPEECHES || stage.isInterrupted) {
      throw new UnsupportedOperationException("it goes on, 4 go on, or it was interrupted");
    }
    return stage.begin(speech);
  }

  public int point() throws NoSuchElementException {
    if (stage.depth == 0 || stage.isInterrupted) {
      throw new NoSuchElementException("no speech goes on, or it was interrupted");
    }
    return stage.tellNext();
  }

  public int interrupt() throws NoSuchElementException {
    if (stage.depth == 0 || stage.isInterrupted) {
      throw new NoSuchElementException("no speech goes on, or it was interrupted");
    }
    return stage.stop(mind.hour);
  }

  public int resume() throws NoSuchElementException {
    if (!stage.isInterrupted) {
      throw new NoSuchElementException("no speech was interrupted");
    }
    return stage.goOn(mind.hour);
  }

  public int fact(int ease) throws IllegalArgumentException, IllegalStateException {
    if (!isIn(ease, 1, 5)) {
      throw new IllegalArgumentException("an ease is 1 to 5");
    }
    if (facts.count >= MOST_FACTS) {
      throw new IllegalStateException("there are 12 facts");
    }
    return facts.add(ease, mind.hour);
  }

  public boolean review(int fact) throws IndexOutOfBoundsException {
    if (!facts.has(fact)) {
      throw new IndexOutOfBoundsException("no such fact");
    }
    return facts.reviewAt(fact, mind.hour);
  }

  public int strength(int fact) throws IndexOutOfBoundsException {
    if (!facts.has(fact)) {
      throw new IndexOutOfBoundsException("no such fact");
    }
    return facts.strengths[fact];
  }

  public boolean isDue(int fact) throws IndexOutOfBoundsException {
    if (!facts.has(fact)) {
      throw new IndexOutOfBoundsException("no such fact");
    }
    return facts.isRightAt(fact, mind.hour) && !facts.isRightAt(fact, mind.hour + 1);
  }

  public int leeches() {
    return facts.leechBits();
  }

  public int bestSum(int hours) throws IllegalArgumentException, IllegalStateException, NoSuchElementException {
    if (!isIn(hours, 1, MOST_PLANNED_HOURS)) {
      throw new IllegalArgumentException("1 to 5 hours");
    }
    if (facts.count > MOST_PLANNED_FACTS) {
      throw new IllegalStateException("there are more than 4 facts");
    }
    if (facts.count == 0) {
      throw new NoSuchElementException("there are no facts");
    }
    facts.plan(hours, mind.hour);
    return facts.bestStrengths;
  }

  public int bestAt(int hours, int hour) throws IllegalArgumentException, IllegalStateException, NoSuchElementException {
    if (!isIn(hours, 1, MOST_PLANNED_HOURS) || hour < 0 || hour >= hours) {
      throw new IllegalArgumentException("1 to 5 hours, and one of them");
    }
    if (facts.count > MOST_PLANNED_FACTS) {
      throw new IllegalStateException("there are more than 4 facts");
    }
    if (facts.count == 0) {
      throw new NoSuchElementException("there are no facts");
    }
    facts.plan(hours, mind.hour);
    return facts.bestPlan[hour];
  }

  // ---- figures

  public long tenths() {
    return tenthsInAll;
  }

  public float heldShare() throws ArithmeticException {
    int all = mind.countLaid();
    if (all == 0) {
      throw new ArithmeticException("no locus has traces");
    }
    return (float) mind.countHeld() / (float) all;
  }

  public double meanHold() throws ArithmeticException {
    int all = mind.countLaid();
    if (all == 0) {
      throw new ArithmeticException("no locus has traces");
    }
    return mind.sumHolds() / (double) all;
  }

  public boolean isConsistent() {
    for (int number = 0; number < tableCount; number++) {
      Table table = tableAt(number);
      if (table == null || !table.isSound(images)) {
        return false;
      }
    }
    return isIn(nextKeyCount, 0, nextKeys.length) && tenthsInAll >= 0
        && tongues.isSound() && mind.isSound() && match.isSound() && stage.isSound() && facts.isSound();
  }

  // ---- what the parts share

  private static boolean isIn(int number, int low, int high) {
    return number >= low && number <= high;
  }

  private static boolean isKey(int key) {
    return isIn(key, 0, KEYS - 1);
  }

  private static boolean isTongue(int tongue) {
    return isIn(tongue, 0, TONGUES - 1);
  }

  private static boolean isYear(int year) {
    return isIn(year, 0, LAST_YEAR);
  }

  private Table tableAt(int number) {
    return number >= 0 && number < tableCount && number < tables.length ? tables[number] : null;
  }

  private boolean haveImages(Table table) {
    for (int which = 0; which < nextKeyCount && which < nextKeys.length; which++) {
      if (!table.hasImage(nextKeys[which])) {
        return false;
      }
    }
    return true;
  }

  /** The images; none is ever changed or taken away. */
  private static final class Images {
    private final int[] kinds = new int[MOST_IMAGES];
    private final int[] vividnesses = new int[MOST_IMAGES];
    private int count;

    private int add(int kind, int vividness) {
      if (count < kinds.length && count < vividnesses.length) {
        kinds[count] = kind;
        vividnesses[count] = vividness;
        count++;
      }
      return count - 1;
    }

    private boolean has(int number) {
      return number >= 0 && number < count;
    }

    private int kindOf(int number) {
      return has(number) && number < kinds.length ? kinds[number] : NONE;
    }

    private int vividnessOf(int number) {
      return has(number) && number < vividnesses.length ? vividnesses[number] : 0;
    }
  }

  /** The letters of digits, 0 for none. */
  private static final class Tongues {
    private final int[][] letters = new int[TONGUES][DIGITS];

    private void put(int tongue, int digit, char letter) {
      if (isTongue(tongue) && isIn(digit, 0, DIGITS - 1)) {
        letters[tongue][digit] = letter;
      }
    }

    private int letterOf(int tongue, int digit) {
      return isTongue(tongue) && isIn(digit, 0, DIGITS - 1) ? letters[tongue][digit] : 0;
    }

    private int digitOf(int tongue, int letter) {
      for (int digit = 0; digit < DIGITS && letter != 0; digit++) {
        if (letterOf(tongue, digit) == letter) {
          return digit;
        }
      }
      return NONE;
    }

    private int countLetters(int tongue) {
      int count = 0;
      for (int digit = 0; digit < DIGITS; digit++) {
        if (letterOf(tongue, digit) != 0) {
          count++;
        }
      }
      return count;
    }

    private int sameSpelling(int key, int tongue, int other) {
      int tens = digitOf(other, letterOf(tongue, key / DIGITS));
      int ones = digitOf(other, letterOf(tongue, key % DIGITS));
      return tens == NONE || ones == NONE ? NONE : tens * DIGITS + ones;
    }

    private boolean isSound() {
      for (int tongue = 0; tongue < TONGUES; tongue++) {
        for (int digit = 0; digit < DIGITS; digit++) {
          int letter = letterOf(tongue, digit);
          if (letter != 0 && digitOf(tongue, letter) != digit) {
            return false;
          }
        }
      }
      return true;
    }
  }

  /** A system: the images and skills of its keys. */
  private static final class Table {
    private final int keysAtLocus;
    private final int[] imageByKey = new int[KEYS];
    private final int[] skillByKey = new int[KEYS];
    private final int[] trial = new int[KEYS];

    private Table(int keysAtLocus) {
      this.keysAtLocus = keysAtLocus;
      Arrays.fill(imageByKey, NONE);
    }

    private void put(int key, int image, int skill) {
      if (isKey(key)) {
        imageByKey[key] = image;
        skillByKey[key] = skill;
      }
    }

    private int imageAt(int key) {
      return isKey(key) ? imageByKey[key] : NONE;
    }

    private int skillAt(int key) {
      return isKey(key) ? skillByKey[key] : 0;
    }

    private boolean hasImage(int key) {
      return imageAt(key) != NONE;
    }

    private int countImages() {
      int count = 0;
      for (int key = 0; key < KEYS; key++) {
        if (imageByKey[key] != NONE) {
          count++;
        }
      }
      return count;
    }

    private int lowestOfKind(Images images, int kind) {
      for (int key = 0; key < KEYS; key++) {
        if (imageByKey[key] != NONE && images.kindOf(imageByKey[key]) == kind) {
          return key;
        }
      }
      return NONE;
    }

    private int spendHours(int hours) {
      return spend(skillByKey, hours);
    }

    /** Goes up by levels: all keys of the lowest skill come, in their order, ahead of those above it. */
    private int spend(int[] skills, int hours) {
      int spent = 0;
      for (int level = 0; level < BEST_SKILL; level++) {
        for (int key = 0; key < KEYS && key < skills.length && spent < hours; key++) {
          if (imageByKey[key] != NONE && skills[key] == level) {
            skills[key]++;
            spent++;
          }
        }
      }
      return spent;
    }

    /** The tenths of all keys with images, as they would be behind some hours of training. */
    private int tenthsAfter(Images images, int hours) {
      System.arraycopy(skillByKey, 0, trial, 0, KEYS);
      spend(trial, hours);
      int sum = 0;
      for (int key = 0; key < KEYS; key++) {
        if (imageByKey[key] != NONE) {
          sum += tenthsOf(images, imageByKey[key], trial[key]);
        }
      }
      return sum;
    }

    private static int tenthsOf(Images images, int image, int skill) {
      return 40 - 2 * images.vividnessOf(image) - 2 * skill;
    }

    private boolean isSound(Images images) {
      for (int key = 0; key < KEYS; key++) {
        boolean isKnown = imageByKey[key] == NONE ? skillByKey[key] == 0 : images.has(imageByKey[key]);
        if (!isKnown || !isIn(skillByKey[key], 0, BEST_SKILL)) {
          return false;
        }
      }
      return isIn(keysAtLocus, 1, MOST_KEYS_AT_LOCUS);
    }
  }

  /** What was laid; it keeps what its images were, as its system may learn others for the keys. */
  private static final class Trace {
    private final int[] laidKeys = new int[MOST_KEYS_AT_LOCUS];
    private final int[] laidKinds = new int[MOST_KEYS_AT_LOCUS];
    private int count;
    private int firstImage;
    private Table table;
    private int since;
    private int firmness;
    private boolean isSuggested;

    private void begin(Table laidBy, int hour, boolean suggested) {
      table = laidBy;
      since = hour;
      isSuggested = suggested;
      count = 0;
      firstImage = NONE;
      firmness = 0;
    }

    private void add(int key, int image, int kind) {
      if (count < laidKeys.length && count < laidKinds.length) {
        laidKeys[count] = key;
        laidKinds[count] = kind;
        firstImage = count == 0 ? image : firstImage;
        count++;
      }
    }

    private int keyAt(int which) {
      return which >= 0 && which < count && which < laidKeys.length ? laidKeys[which] : NONE;
    }

    private int kindAt(int which) {
      return which >= 0 && which < count && which < laidKinds.length ? laidKinds[which] : NONE;
    }

    private boolean isVaried() {
      for (int which = 1; which < count; which++) {
        for (int ahead = 0; ahead < which; ahead++) {
          if (kindAt(which) == kindAt(ahead)) {
            return false;
          }
        }
      }
      return count >= 2;
    }

    private int guessAt(Images images, int which) {
      int kind = kindAt(which);
      return kind == NONE || table == null ? NONE : table.lowestOfKind(images, kind);
    }

    private boolean strengthen(int more) {
      int before = firmness;
      firmness = Math.min(MOST_HOLD, firmness + more);
      return firmness > before;
    }

    private boolean isSound(int hour) {
      return table != null && isIn(count, 1, table.keysAtLocus)
          && isIn(firmness, 1, MOST_HOLD) && isIn(since, 0, hour);
    }
  }

  /** A place in a walk with its pile of traces; a slot of the pile is used again, as it falls free. */
  private static final class Locus {
    private final int power;
    private final Trace[] pile = new Trace[MOST_TRACES];
    private int height;
    private boolean hasCue;

    private Locus(int power) {
      this.power = power;
    }

    private Trace fromTop(int below) {
      int slot = height - 1 - below;
      return below >= 0 && slot >= 0 && slot < pile.length ? pile[slot] : null;
    }

    private Trace raise() {
      if (height >= pile.length) {
        moveOldestUp();
        height = pile.length - 1;
      }
      if (pile[height] == null) {
        pile[height] = new Trace();
      }
      height++;
      return pile[height - 1];
    }

    private void moveOldestUp() {
      Trace oldest = pile[0];
      for (int slot = 1; slot < pile.length; slot++) {
        pile[slot - 1] = pile[slot];
      }
      pile[pile.length - 1] = oldest;
    }
  }

  /** A walk of loci, with the parities of its groups. */
  private static final class Palace {
    private final Locus[] loci = new Locus[MOST_LOCI];
    private int count;
    private int groupSize;
    private int groupedLoci;
    private final int[] sums = new int[MOST_LOCI];

    private int addLocus(int power) {
      if (count < loci.length) {
        loci[count] = new Locus(power);
        count++;
      }
      return count;
    }

    private Locus at(int place) {
      return place >= 0 && place < count && place < loci.length ? loci[place] : null;
    }

    private Trace topAt(int place) {
      Locus locus = at(place);
      return locus == null ? null : locus.fromTop(0);
    }

    private int firstKeyAt(int place) {
      Trace top = topAt(place);
      return top == null ? 0 : Math.max(0, top.keyAt(0));
    }

    private int tellGroups(int size) {
      groupSize = size;
      groupedLoci = size > 0 ? count : 0;
      Arrays.fill(sums, 0);
      for (int place = 0; place < groupedLoci; place++) {
        int group = groupOf(place);
        if (group >= 0 && group < sums.length) {
          sums[group] = (sums[group] + firstKeyAt(place)) % KEYS;
        }
      }
      return groupOf(groupedLoci - 1) + 1;
    }

    private int groupOf(int place) {
      return place >= 0 && place < groupedLoci && groupSize > 0 ? place / groupSize : NONE;
    }

    private int sumOf(int group) {
      return group >= 0 && group < sums.length ? sums[group] : 0;
    }
  }

  /** All palaces at an hour and an age: what holds there, and how it is recalled. */
  private static final class Mind {
    private final Images images;
    private final Palace[] palaces = new Palace[MOST_PALACES];
    private int palaceCount;
    private int hour;
    private int years = 20;
    // No trace is older than the hour 0, so this also stands for no long sleep yet.
    private int sleptTo;

    private Mind(Images images) {
      this.images = images;
    }

    private int addPalace() {
      if (palaceCount < palaces.length) {
        palaces[palaceCount] = new Palace();
        palaceCount++;
      }
      return palaceCount - 1;
    }

    private Palace palaceAt(int number) {
      return number >= 0 && number < palaceCount && number < palaces.length ? palaces[number] : null;
    }

    private Locus locusAt(int number, int at) {
      Palace house = palaceAt(number);
      return house == null ? null : house.at(at);
    }

    private int layTrace(Locus place, Table table, int[] keys, int from, int count, boolean isSuggested) {
      Trace trace = place.raise();
      trace.begin(table, hour, isSuggested);
      int taken = 0;
      for (int index = from; index < from + count && index >= 0 && index < keys.length; index++) {
        int key = keys[index];
        int image = table.imageAt(key);
        trace.add(key, image, images.kindOf(image));
        taken += Table.tenthsOf(images, image, table.skillAt(key));
      }
      trace.strengthen(10 * place.power + 5 * images.vividnessOf(trace.firstImage));
      if (trace.isVaried()) {
        trace.strengthen(10);
      }
      return taken;
    }

    private int layAlong(Palace house, Table table, int[] keys, int count) {
      int taken = 0;
      int from = 0;
      for (int at = 0; at < house.count && from < count; at++) {
        Locus place = house.at(at);
        if (place != null) {
          taken += layTrace(place, table, keys, from, Math.min(table.keysAtLocus, count - from), false);
        }
        from += table.keysAtLocus;
      }
      return taken;
    }

    private float holdNow(Palace house, int at, Trace trace) {
      float now = (float) trace.firmness * 20f / (20f + (float) hoursSince(trace));
      now = now - 2f * (float) countLikes(house, trace.firstImage);
      now = now - 3f * (float) countNeighbours(house, at, trace.kindAt(0));
      now = now - (float) (Math.max(0, years - 60) / 5);
      Locus place = house.at(at);
      if (place != null && place.hasCue) {
        now = now + 5f;
      }
      return now < 0f ? 0f : now;
    }

    /** Never below 0, as it goes into a divisor. */
    private int hoursSince(Trace trace) {
      return Math.max(0, hour - trace.since);
    }

    private int countLikes(Palace house, int image) {
      int likes = 0;
      for (int number = 0; number < palaceCount && number < palaces.length; number++) {
        Palace other = palaces[number];
        for (int at = 0; other != null && other != house && at < other.count; at++) {
          Locus place = other.at(at);
          Trace top = place == null ? null : place.fromTop(0);
          if (top != null && top.firstImage == image) {
            likes++;
          }
        }
      }
      return likes;
    }

    private int countNeighbours(Palace house, int at, int kind) {
      int neighbours = 0;
      for (int beside = at - 1; beside <= at + 1; beside += 2) {
        Locus place = house.at(beside);
        Trace top = place == null ? null : place.fromTop(0);
        if (top != null && top.kindAt(0) == kind) {
          neighbours++;
        }
      }
      return neighbours;
    }

    /** How far below the topmost trace the first one lies that holds. */
    private int heldBelow(Palace house, int at) {
      Locus place = house.at(at);
      for (int below = 0; place != null && below < place.height; below++) {
        Trace trace = place.fromTop(below);
        if (trace != null && holdNow(house, at, trace) >= 20f) {
          return below;
        }
      }
      return NONE;
    }

    /** How a locus is recalled by its own traces alone, without a parity. */
    private char ownSign(Palace house, int at) {
      Trace top = house.topAt(at);
      if (top == null) {
        return '-';
      }
      int below = heldBelow(house, at);
      if (below == 0) {
        return top.isSuggested ? 'f' : 'r';
      }
      if (below > 0) {
        return 'g';
      }
      return holdNow(house, at, top) >= 10f ? 'p' : '-';
    }

    private boolean isRecalled(Palace house, int at) {
      Trace top = house.topAt(at);
      return top != null && !top.isSuggested && holdNow(house, at, top) >= 20f;
    }

    private char signOf(Palace house, int at) {
      char sign = ownSign(house, at);
      return sign == '-' && inferredKey(house, at) != NONE ? 'i' : sign;
    }

    /** The first key that the parity asks for at a locus which is missing by its own traces. */
    private int inferredKey(Palace house, int at) {
      Trace top = house.topAt(at);
      int group = house.groupOf(at);
      if (top == null || top.table == null || group == NONE) {
        return NONE;
      }
      int rest = house.sumOf(group);
      int first = group * house.groupSize;
      for (int place = first; place < first + house.groupSize && place < house.groupedLoci; place++) {
        if (place != at) {
          if (!isRecalled(house, place)) {
            return NONE;
          }
          rest -= house.firstKeyAt(place);
        }
      }
      int key = Math.floorMod(rest, KEYS);
      return top.table.hasImage(key) ? key : NONE;
    }

    private int toldKey(Palace house, int at, int which) {
      Locus place = house == null ? null : house.at(at);
      Trace top = place == null ? null : place.fromTop(0);
      if (top == null) {
        return NONE;
      }
      char sign = ownSign(house, at);
      if (sign == 'p') {
        return top.guessAt(images, which);
      }
      if (sign == '-') {
        return which == 0 ? inferredKey(house, at) : NONE;
      }
      Trace held = place.fromTop(heldBelow(house, at));
      return held == null ? NONE : held.keyAt(which);
    }

    private int walkThrough(Palace house) {
      int found = 0;
      for (int at = 0; at < house.count; at++) {
        Trace top = house.topAt(at);
        if (top != null && holdNow(house, at, top) >= 20f) {
          top.strengthen(10);
          top.since = hour;
          found++;
        }
      }
      return found;
    }

    private int strengthenBySleep() {
      int more = 0;
      for (int number = 0; number < palaceCount; number++) {
        Palace house = palaceAt(number);
        for (int at = 0; house != null && at < house.count; at++) {
          more += strengthenPile(house.at(at));
        }
      }
      sleptTo = hour;
      return more;
    }

    private int strengthenPile(Locus place) {
      int more = 0;
      for (int below = 0; place != null && below < place.height; below++) {
        Trace trace = place.fromTop(below);
        if (trace != null && trace.since >= sleptTo && trace.strengthen(8)) {
          more++;
        }
      }
      return more;
    }

    private int countLaid() {
      int laid = 0;
      for (int number = 0; number < palaceCount; number++) {
        Palace house = palaceAt(number);
        for (int at = 0; house != null && at < house.count; at++) {
          if (house.topAt(at) != null) {
            laid++;
          }
        }
      }
      return laid;
    }

    private int countHeld() {
      int held = 0;
      for (int number = 0; number < palaceCount; number++) {
        Palace house = palaceAt(number);
        for (int at = 0; house != null && at < house.count; at++) {
          if (isRecalled(house, at)) {
            held++;
          }
        }
      }
      return held;
    }

    private double sumHolds() {
      double sum = 0.0;
      for (int number = 0; number < palaceCount; number++) {
        Palace house = palaceAt(number);
        for (int at = 0; house != null && at < house.count; at++) {
          Trace top = house.topAt(at);
          if (top != null) {
            sum = sum + (double) holdNow(house, at, top);
          }
        }
      }
      return sum;
    }

    private boolean isSound() {
      for (int number = 0; number < palaceCount; number++) {
        Palace house = palaceAt(number);
        if (house == null || !isIn(house.groupedLoci, 0, house.count)) {
          return false;
        }
        for (int at = 0; at < house.count; at++) {
          if (!isSoundPile(house.at(at))) {
            return false;
          }
        }
      }
      return isIn(sleptTo, 0, hour) && isIn(years, 0, 120);
    }

    private boolean isSoundPile(Locus place) {
      if (place == null || !isIn(place.power, 1, 9) || !isIn(place.height, 0, MOST_TRACES)) {
        return false;
      }
      for (int below = 0; below < place.height; below++) {
        Trace trace = place.fromTop(below);
        if (trace == null || !trace.isSound(hour)) {
          return false;
        }
      }
      return true;
    }
  }

  /** What was told for years: for each the newest row, of one or two numbers. */
  private static final class YearRows {
    private final int[] years = new int[MOST_YEAR_ROWS];
    private final int[] firsts = new int[MOST_YEAR_ROWS];
    private final int[] seconds = new int[MOST_YEAR_ROWS];
    private int count;

    private int rowOf(int year) {
      for (int row = 0; row < count && row < years.length; row++) {
        if (years[row] == year) {
          return row;
        }
      }
      return NONE;
    }

    private boolean isFullFor(int year) {
      return count >= years.length && rowOf(year) == NONE;
    }

    private int put(int year, int first, int second) {
      int known = rowOf(year);
      int row = known == NONE ? count : known;
      if (row >= 0 && row < years.length && row < firsts.length && row < seconds.length) {
        years[row] = year;
        firsts[row] = first;
        seconds[row] = second;
        count = Math.max(count, row + 1);
      }
      return count;
    }

    private int latest(int year) {
      int best = NONE;
      for (int row = 0; row < count && row < years.length; row++) {
        if (years[row] <= year && (best == NONE || years[row] > years[best])) {
          best = row;
        }
      }
      return best;
    }

    private int firstAt(int row, int without) {
      return row >= 0 && row < count && row < firsts.length ? firsts[row] : without;
    }

    private int secondAt(int row, int without) {
      return row >= 0 && row < count && row < seconds.length ? seconds[row] : without;
    }
  }

  /** The last contest, open or closed, and the scores of all that were closed. */
  private static final class Contest {
    private boolean isOpen;
    private int year;
    private Palace house;
    private Table table;
    private int count;
    private final int[] drawnKeys = new int[MOST_DRAWN];
    private final int[] draft = new int[MOST_DRAWN];
    private int given;
    private final int[] answers = new int[MOST_DRAWN];
    private final int[] times = new int[MOST_DRAWN];
    private final boolean[] rights = new boolean[MOST_DRAWN];
    private int appeals;
    private int closedCount;
    private int closedYear;
    private int closedScore;
    private final int[] closedYears = new int[MOST_CALLS];
    private final int[] closedScores = new int[MOST_CALLS];

    /** Draws into a row of its own, as the last contest stays if this one cannot be. */
    private boolean draw(Table from, int seed, int keys) {
      long z = seed;
      for (int index = 0; index < keys && index < draft.length; index++) {
        draft[index] = NONE;
        for (int tries = 0; tries < 100 && draft[index] == NONE; tries++) {
          z = (z * 1103515245L + 12345L) % 2147483648L;
          int key = (int) (z / 65536L % 100L);
          if (from.hasImage(key)) {
            draft[index] = key;
          }
        }
        if (draft[index] == NONE) {
          return false;
        }
      }
      return true;
    }

    private void begin(int ofYear, Palace inHouse, Table byTable, int keys) {
      System.arraycopy(draft, 0, drawnKeys, 0, MOST_DRAWN);
      isOpen = true;
      year = ofYear;
      house = inHouse;
      table = byTable;
      count = keys;
      given = 0;
      appeals = 0;
    }

    private int keysAtLocus() {
      return table == null ? 1 : Math.max(1, table.keysAtLocus);
    }

    private boolean give(int key, int tenths) {
      int index = given;
      if (index < 0 || index >= count || index >= MOST_DRAWN) {
        return false;
      }
      answers[index] = key;
      times[index] = tenths;
      rights[index] = key == drawnKeys[index];
      given++;
      return rights[index];
    }

    private boolean isRightAt(int index) {
      return index >= 0 && index < given && index < rights.length && rights[index];
    }

    private boolean isMissingAt(int index) {
      return index < 0 || index >= given || index >= answers.length || answers[index] == NONE;
    }

    private boolean hear(int index) {
      if (index < 0 || index >= given || index >= MOST_DRAWN) {
        return false;
      }
      appeals++;
      int key = drawnKeys[index];
      rights[index] = answers[index] == key % DIGITS * DIGITS + key / DIGITS;
      return rights[index];
    }

    private int score(int row, int slips) {
      if (slips == 'f') {
        return rightsFrom(0, count);
      }
      int sum = 0;
      for (int from = 0; from < count; from += Math.max(1, row)) {
        sum += scoreOfRow(from, Math.min(count, from + Math.max(1, row)), slips);
      }
      return sum;
    }

    private int scoreOfRow(int from, int to, int slips) {
      int lead = rightsFrom(from, to);
      if (lead == to - from) {
        return lead;
      }
      if (slips != 'h') {
        return 0;
      }
      if (isMissingFrom(from + lead, to)) {
        return lead;
      }
      boolean hasOneSlip = rightsFrom(from + lead + 1, to) == to - from - lead - 1;
      return hasOneSlip ? (to - from + 1) / 2 : 0;
    }

    /** How many right answers stand from a place on, up to the first slip. */
    private int rightsFrom(int from, int to) {
      int index = from;
      while (index < to && isRightAt(index)) {
        index++;
      }
      return index - from;
    }

    private boolean isMissingFrom(int from, int to) {
      for (int index = from; index < to; index++) {
        if (!isMissingAt(index)) {
          return false;
        }
      }
      return true;
    }

    private int end(int score) {
      isOpen = false;
      closedYear = year;
      closedScore = score;
      if (closedCount < closedYears.length && closedCount < closedScores.length) {
        closedYears[closedCount] = year;
        closedScores[closedCount] = score;
        closedCount++;
      }
      return score;
    }

    private int bestUpTo(int lastYear) {
      int best = NONE;
      for (int index = 0; index < closedCount && index < closedYears.length; index++) {
        if (closedYears[index] <= lastYear) {
          best = Math.max(best, closedScores[index]);
        }
      }
      return best;
    }

    private boolean isTooFast() {
      int right = 0;
      int fast = 0;
      for (int index = 0; table != null && index < given && index < MOST_DRAWN; index++) {
        if (rights[index]) {
          right++;
          fast += times[index] < 12 - table.skillAt(drawnKeys[index]) ? 1 : 0;
        }
      }
      return 2 * fast > right;
    }

    private boolean isSound() {
      boolean isWhole = count == 0 ? !isOpen : house != null && table != null;
      return isWhole && isIn(count, 0, MOST_DRAWN) && isIn(given, 0, count)
          && isIn(appeals, 0, 2) && (isOpen || given == count);
    }
  }

  /** The speeches, and those that go on, each within the one ahead of it. */
  private static final class Stage {
    private final int[] lengths = new int[MOST_SPEECHES];
    private final int[] nexts = new int[MOST_SPEECHES];
    private int count;
    private final int[] going = new int[MOST_SPEECHES];
    private int depth;
    private boolean isInterrupted;
    private int stoppedAt;

    private int add(int length) {
      if (count < lengths.length) {
        lengths[count] = length;
        count++;
      }
      return count - 1;
    }

    private boolean goesOn(int speech) {
      for (int level = 0; level < depth && level < going.length; level++) {
        if (going[level] == speech) {
          return true;
        }
      }
      return false;
    }

    private int begin(int speech) {
      if (speech >= 0 && speech < nexts.length && depth < going.length) {
        nexts[speech] = 0;
        going[depth] = speech;
        depth++;
      }
      return depth;
    }

    private int innermost() {
      return depth > 0 && depth <= going.length ? going[depth - 1] : NONE;
    }

    private int tellNext() {
      int speech = innermost();
      if (speech < 0 || speech >= nexts.length) {
        return NONE;
      }
      int told = nexts[speech];
      nexts[speech]++;
      if (nexts[speech] >= lengths[speech]) {
        depth--;
      }
      return told;
    }

    private int stop(int hour) {
      int speech = innermost();
      if (speech < 0 || speech >= nexts.length) {
        return 0;
      }
      isInterrupted = true;
      stoppedAt = hour;
      return lengths[speech] - nexts[speech];
    }

    private int goOn(int hour) {
      isInterrupted = false;
      int speech = innermost();
      if (speech < 0 || speech >= nexts.length) {
        return NONE;
      }
      if (hour - stoppedAt > 2) {
        nexts[speech] = Math.max(0, nexts[speech] - 1);
      }
      return nexts[speech];
    }

    private boolean isSound() {
      for (int level = 0; level < depth && level < going.length; level++) {
        int speech = going[level];
        if (speech < 0 || speech >= count || !isIn(nexts[speech], 0, lengths[speech] - 1)) {
          return false;
        }
      }
      return isIn(depth, 0, count) && (depth > 0 || !isInterrupted);
    }
  }

  /** The facts, and the search for their best reviews. */
  private static final class Facts {
    private final int[] eases = new int[MOST_FACTS];
    private final int[] strengths = new int[MOST_FACTS];
    private final int[] lasts = new int[MOST_FACTS];
    private final int[] lapses = new int[MOST_FACTS];
    private int count;
    private final int[] tried = new int[MOST_PLANNED_HOURS];
    private final int[] bestPlan = new int[MOST_PLANNED_HOURS];
    private int bestStrengths;
    private int bestReviews;

    private int add(int ease, int hour) {
      if (count < MOST_FACTS) {
        eases[count] = ease;
        strengths[count] = 1;
        lasts[count] = hour;
        count++;
      }
      return count - 1;
    }

    private boolean has(int fact) {
      return fact >= 0 && fact < count && fact < MOST_FACTS;
    }

    private boolean isRightAt(int fact, int hour) {
      return has(fact) && hour - lasts[fact] <= 4 * strengths[fact] * eases[fact];
    }

    private boolean reviewAt(int fact, int hour) {
      boolean isRight = isRightAt(fact, hour);
      if (has(fact)) {
        restudy(fact, hour);
        lapses[fact] += isRight ? 0 : 1;
      }
      return isRight;
    }

    private void restudy(int fact, int hour) {
      if (has(fact)) {
        strengths[fact] = isRightAt(fact, hour) ? Math.min(64, strengths[fact] * 2) : Math.max(1, strengths[fact] / 2);
        lasts[fact] = hour;
      }
    }

    private int leechBits() {
      int bits = 0;
      for (int fact = 0; fact < count && fact < MOST_FACTS; fact++) {
        if (lapses[fact] >= 3) {
          bits |= 1 << fact;
        }
      }
      return bits;
    }

    private void plan(int hours, int now) {
      bestStrengths = NONE;
      tryHour(0, Math.min(hours, MOST_PLANNED_HOURS), now, 0);
    }

    /** Plans come in the order that decides between equals, so only a better one takes the place of another. */
    private void tryHour(int depth, int hours, int now, int reviews) {
      if (depth < 0 || depth >= hours || depth >= tried.length) {
        keepIfBetter(hours, reviews);
        return;
      }
      for (int fact = 0; fact < count && fact < MOST_PLANNED_FACTS; fact++) {
        int strengthBefore = strengths[fact];
        int lastBefore = lasts[fact];
        restudy(fact, now + depth);
        tried[depth] = fact;
        tryHour(depth + 1, hours, now, reviews + 1);
        strengths[fact] = strengthBefore;
        lasts[fact] = lastBefore;
      }
      tried[depth] = NONE;
      tryHour(depth + 1, hours, now, reviews);
    }

    private void keepIfBetter(int hours, int reviews) {
      int sum = 0;
      for (int fact = 0; fact < count && fact < MOST_FACTS; fact++) {
        sum += strengths[fact];
      }
      if (sum > bestStrengths || (sum == bestStrengths && reviews < bestReviews)) {
        bestStrengths = sum;
        bestReviews = reviews;
        System.arraycopy(tried, 0, bestPlan, 0, MOST_PLANNED_HOURS);
      }
    }

    private boolean isSound() {
      for (int fact = 0; fact < count && fact < MOST_FACTS; fact++) {
        if (!isIn(eases[fact], 1, 5) || !isIn(strengths[fact], 1, 64)) {
          return false;
        }
      }
      return isIn(count, 0, MOST_FACTS);
    }
  }
}
