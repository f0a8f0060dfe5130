/** The halls that the tests begin with, and what they do in them. */
final class Halls {
  private Halls() {
  }

  /** Images 0 to 4 of the kinds 0 to 4, vividness 0; system 0 of 3 keys: 10 to 14 in order; a palace of some loci. */
  static Locihall withWalk(int loci, int strength) {
    Locihall x = new Locihall();
    for (int kind = 0; kind < 5; kind++) {
      x.image(kind, 0);
    }
    x.system(3);
    for (int kind = 0; kind < 5; kind++) {
      x.learn(0, 10 + kind, kind);
    }
    addPalace(x, loci, strength);
    return x;
  }

  /** Every key has an image of the kind 0, but for multiples of 7, of the kind 1; a palace of 12 loci. */
  static Locihall withContests(int keysAtLocus) {
    return withContests(keysAtLocus, 12);
  }

  static Locihall withContests(int keysAtLocus, int loci) {
    Locihall x = new Locihall();
    x.image(0, 0);
    x.image(1, 0);
    x.system(keysAtLocus);
    for (int key = 0; key < 100; key++) {
      x.learn(0, key, key % 7 == 0 ? 1 : 0);
    }
    addPalace(x, loci, 9);
    return x;
  }

  /** A system of some keys, from the lowest on, with images of the vividness 0. */
  static Locihall withKeys(int keys) {
    Locihall x = new Locihall();
    x.image(0, 0);
    x.system(3);
    for (int key = 0; key < keys; key++) {
      x.learn(0, key, 0);
    }
    return x;
  }

  /** As much as there can be of all but traces and contests: no more can be added. */
  static Locihall withPlenty() {
    Locihall x = new Locihall();
    for (int image = 0; image < 30; image++) {
      x.image(image % 5, image % 10);
    }
    for (int system = 0; system < 4; system++) {
      x.system(Math.min(3, system + 1));
      x.learn(system, 10, system);
      addPalace(x, system == 0 ? 12 : system, 9);
    }
    for (int year = 1; year <= 8; year++) {
      x.book(1000 * year, 5, 'h');
      x.standard(1000 * year, 5);
    }
    for (int number = 0; number < 4; number++) {
      x.speech(0, 3);
    }
    for (int fact = 0; fact < 12; fact++) {
      x.fact(1 + fact % 5);
    }
    for (int key = 0; key < 3; key++) {
      x.key(10);
    }
    return x;
  }

  static int addPalace(Locihall x, int loci, int strength) {
    int palace = x.palace();
    for (int locus = 0; locus < loci; locus++) {
      x.locus(palace, strength);
    }
    return palace;
  }

  /** A new image for a key of system 0. */
  static int learn(Locihall x, int key, int kind, int vividness) {
    int image = x.image(kind, vividness);
    x.learn(0, key, image);
    return image;
  }

  static int lay(Locihall x, int palace, int at, int... keys) {
    for (int key : keys) {
      x.key(key);
    }
    return x.lay(palace, at, 0, false);
  }

  static int suggest(Locihall x, int palace, int at, int... keys) {
    for (int key : keys) {
      x.key(key);
    }
    return x.lay(palace, at, 0, true);
  }

  static int reversed(int key) {
    return key % 10 * 10 + key / 10;
  }

  /** The score of a contest with answers that are r right, w wrong or m missing. */
  static int score(Locihall x, int year, String answers) {
    x.contest(year, 5, 0, 0, answers.length());
    for (int index = 0; index < answers.length(); index++) {
      give(x, index, answers.charAt(index), 50);
    }
    return x.close();
  }

  static void give(Locihall x, int index, char how, int tenths) {
    int key = x.drawn(index);
    x.answer(how == 'r' ? key : how == 'm' ? -1 : (key + 1) % 100, tenths);
  }

  /** The lowest seed by which the first draws are in vain, as many as told, and the next is the key. */
  static int seedFor(int key, int inVain) {
    int seed = 0;
    while (drawsUntil(seed, key) != inVain + 1) {
      seed++;
    }
    return seed;
  }

  static int drawsUntil(int seed, int key) {
    long z = seed;
    for (int draws = 1; draws <= 1000; draws++) {
      z = (z * 1103515245L + 12345L) & 0x7fffffffL;
      if ((z >> 16) % 100 == key) {
        return draws;
      }
    }
    return 1001;
  }

  /** A walk of as many loci as the longest speech has points, and the speeches. */
  static Locihall withSpeeches(int... points) {
    Locihall x = new Locihall();
    addPalace(x, java.util.Arrays.stream(points).max().orElse(0), 1);
    for (int length : points) {
      x.speech(0, length);
    }
    return x;
  }

  /** The best reviews of as many hours as facts are told, with the sum that they leave. */
  static void checkPlan(String call, Locihall x, int sum, int... facts) {
    for (int hour = 0; hour < facts.length; hour++) {
      int asked = hour;
      Due.due(call + " hour " + hour, () -> x.bestAt(facts.length, asked), facts[hour]);
    }
    Due.due(call + " the sum", () -> x.bestSum(facts.length), sum);
  }

  /** A seed by which a key comes in time, then behind draws in vain from least to most, and for both together at least as many. */
  static int seedForTwo(int key, int least, int most, int leastForBoth) {
    int seed = 0;
    while (!fitsForTwo(seed, key, least, most, leastForBoth)) {
      seed++;
    }
    return seed;
  }

  private static boolean fitsForTwo(int seed, int key, int least, int most, int leastForBoth) {
    int first = drawsUntil(seed, key);
    if (first > 100) {
      return false;
    }
    long z = seed;
    for (int draws = 0; draws < first; draws++) {
      z = (z * 1103515245L + 12345L) & 0x7fffffffL;
    }
    int inVain = drawsUntil((int) z, key) - 1;
    return inVain >= least && inVain <= most && first - 1 + inVain >= leastForBoth;
  }
}
