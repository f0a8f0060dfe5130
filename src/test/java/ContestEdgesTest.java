/** Promises 27 to 33 and 37: each bound that the document names for books, contests, answers and appeals, on both sides. */
public final class ContestEdgesTest {
  public static void main(String[] args) {
    yearsAndNumbers();
    slips();
    eightBooks();
    eightStandards();
    contestNumbers();
    contestNumbersOfNone();
    room();
    aSmallerLastLocus();
    laidAlongTheWalk();
    laidOnAFullLocus();
    seeds();
    moduloAndCut();
    aHundredInVain();
    oneBehindTheOther();
    drawnNumbers();
    drawnOfTheLastOne();
    answerNumbers();
    asManyAnswersAsKeys();
    answersByRecall();
    answersThatAreMissingYet();
    answersOfAllKinds();
    appealNumbers();
    digitsTheOtherWayRound();
    twoAppeals();
    moreThanHalf();
    fewerTenths();
    fewerByAnAppeal();
    nobodySuspect();
    Due.end();
  }

  private static void yearsAndNumbers() {
    Due.range("27: year", 0, 9999, year -> new Locihall().book(year, 1, 'h'), Due.ARGUMENT);
    Due.range("27: row", 1, 20, row -> new Locihall().book(2000, row, 'f'), Due.ARGUMENT);
    Due.range("28: year", 0, 9999, year -> new Locihall().standard(year, 1), Due.ARGUMENT);
    Due.range("28: score", 1, 999, score -> new Locihall().standard(2000, score), Due.ARGUMENT);
    Due.range("29: year", 0, 9999, year -> Halls.withContests(1).contest(year, 0, 0, 0, 1), Due.ARGUMENT);
  }

  private static void slips() {
    for (char slips : new char[] {'h', 'z', 'f'}) {
      Due.due("27: " + slips, () -> new Locihall().book(0, 20, slips), 1);
    }
    for (char slips : new char[] {0, 'H', 'Z', 'F', 'e', 'g', 'i', 'y', '{', 'h' + 256, 0xffff}) {
      Due.thrown("27: letter " + (int) slips, () -> new Locihall().book(0, 20, slips), Due.ARGUMENT);
    }
  }

  private static void eightBooks() {
    Locihall x = new Locihall();
    for (int book = 1; book <= 8; book++) {
      int told = book;
      Due.due("27: book " + told, () -> x.book(1000 * told, 5, 'z'), told);
    }
    for (int book = 1; book <= 8; book++) {
      int told = book;
      Due.due("27: in place of another one, " + told, () -> x.book(1000 * told, 6, 'h'), 8);
    }
    for (int year : new int[] {0, 999, 1001, 7999, 8001, 9999}) {
      Due.thrown("27: 8 others, year " + year, () -> x.book(year, 5, 'h'), Due.STATE);
    }
    Locihall y = new Locihall();
    Due.due("27: one", () -> y.book(0, 1, 'h'), 1);
    Due.due("27: the same again", () -> y.book(0, 1, 'h'), 1);
  }

  private static void eightStandards() {
    Locihall x = new Locihall();
    for (int standard = 8; standard >= 1; standard--) {
      int told = standard;
      Due.due("28: standard of " + told, () -> x.standard(1000 * told, 5), 9 - told);
    }
    for (int standard = 1; standard <= 8; standard++) {
      int told = standard;
      Due.due("28: in place of another one, " + told, () -> x.standard(1000 * told, 999), 8);
    }
    for (int year : new int[] {0, 999, 1001, 7999, 8001, 9999}) {
      Due.thrown("28: 8 others, year " + year, () -> x.standard(year, 5), Due.STATE);
    }
    Due.due("27: no book was told", () -> x.book(9999, 5, 'h'), 1);
  }

  /** Two systems and two palaces, all fit for a contest. */
  private static Locihall withTwoOfAll() {
    Locihall x = Halls.withContests(3);
    x.system(2);
    for (int key = 0; key < 50; key++) {
      x.learn(1, key, 0);
    }
    Halls.addPalace(x, 12, 1);
    return x;
  }

  private static void contestNumbers() {
    Due.range("29: palace", 0, 1, palace -> withTwoOfAll().contest(0, 0, palace, 0, 1), Due.BOUNDS);
    Due.range("29: system", 0, 1, system -> withTwoOfAll().contest(0, 0, 1, system, 1), Due.BOUNDS);
    Due.range("29: keys", 1, 36, keys -> withTwoOfAll().contest(0, 0, 1, 0, keys), Due.ARGUMENT);
  }

  private static void contestNumbersOfNone() {
    Due.range("29: palace of none", 0, -1, palace -> Halls.withKeys(99).contest(0, 0, palace, 0, 1), Due.BOUNDS);
    Due.range("29: system of none", 0, -1, system -> withoutSystems().contest(0, 0, 0, system, 1), Due.BOUNDS);
    Due.thrown("30: none was drawn", () -> Halls.withContests(1).drawn(0), Due.NONE);
    Due.thrown("31: no contest", () -> Halls.withContests(1).answer(-1, 0), Due.NONE);
    Due.thrown("32: no contest", () -> Halls.withContests(1).answerAll(0), Due.NONE);
    Due.thrown("33: no contest", () -> Halls.withContests(1).appeal(0), Due.NONE);
    Due.thrown("34: no contest", () -> Halls.withContests(1).close(), Due.NONE);
    Due.thrown("35: no contest", () -> Halls.withContests(1).points(), Due.NONE);
    Due.thrown("36: no contest", () -> Halls.withContests(1).record(9999), Due.NONE);
    Due.thrown("37: no contest", () -> Halls.withContests(1).isSuspect(), Due.NONE);
  }

  private static Locihall withoutSystems() {
    Locihall x = new Locihall();
    Halls.addPalace(x, 1, 1);
    return x;
  }

  private static void room() {
    for (int laid = 1; laid <= 3; laid++) {
      for (int loci : new int[] {0, 1, 2, 7, 11, 12}) {
        for (int keys : new int[] {1, loci * laid - 1, loci * laid, loci * laid + 1, 36}) {
          if (keys >= 1 && keys <= 36) {
            checkRoom(laid, loci, keys);
          }
        }
      }
    }
  }

  private static void checkRoom(int laid, int loci, int keys) {
    Locihall x = Halls.withContests(laid, loci);
    Object due = keys <= loci * laid ? 40 * keys : Due.CANNOT.getSimpleName();
    Due.due("29: " + keys + " keys on " + loci + " loci of " + laid, () -> x.contest(0, 0, 0, 0, keys), due);
  }

  private static void aSmallerLastLocus() {
    for (int laid = 1; laid <= 3; laid++) {
      for (int keys = 1; keys <= 3 * laid; keys++) {
        Locihall x = Halls.withContests(laid, 3);
        x.contest(0, 5, 0, 0, keys);
        for (int index = 0; index < 9; index++) {
          int at = index / 3;
          int which = index % 3;
          int drawn = at * laid + which;
          Object due = which < laid && drawn < keys ? x.drawn(drawn) : Due.NONE.getSimpleName();
          Due.due("29: key " + which + " at " + at + ", " + keys + " by " + laid, () -> x.recalled(0, at, which), due);
        }
        int full = keys;
        int each = laid;
        for (int at = 0; at < 3; at++) {
          int asked = at;
          Due.due("17: laid at " + at, () -> x.traces(0, asked), asked * each < full ? 1 : 0);
        }
      }
    }
  }

  private static void laidAlongTheWalk() {
    Locihall x = Halls.withContests(1, 12);
    x.contest(0, 5, 0, 0, 12);
    for (int at = 0; at < 12; at++) {
      int asked = at;
      Due.due("29: not suggested", () -> x.recall(0, asked), 'r');
      Due.due("29: in their order", () -> x.recalled(0, asked, 0), x.drawn(at));
    }
    Due.due("50: the tenths of all", () -> x.tenths(), 480L);
    Due.due("51: all by r", () -> x.heldShare(), 1f);
  }

  private static void laidOnAFullLocus() {
    Locihall x = Halls.withContests(1, 1);
    for (int count = 0; count < 6; count++) {
      Halls.lay(x, 0, 0, count);
    }
    Due.due("29: with a seventh the oldest is gone, no more room is asked for", () -> x.contest(0, 5, 0, 0, 1), 40);
    Due.due("17: at most 6", () -> x.traces(0, 0), 6);
    Due.due("20: topmost", () -> x.recalled(0, 0, 0), x.drawn(0));
  }

  private static void seeds() {
    for (int seed : new int[] {0, 1, Integer.MAX_VALUE - 1, Integer.MAX_VALUE}) {
      Due.due("29: seed " + seed, () -> Halls.withContests(1).contest(0, seed, 0, 0, 1), 40);
    }
    for (int seed : new int[] {-1, -2, Integer.MIN_VALUE}) {
      Due.thrown("29: seed " + seed, () -> Halls.withContests(1).contest(0, seed, 0, 0, 1), Due.ARGUMENT);
    }
  }

  private static void moduloAndCut() {
    for (int seed : new int[] {0, 1, 7, 65535, 1234567890, Integer.MAX_VALUE - 1, Integer.MAX_VALUE}) {
      Locihall x = Halls.withContests(3);
      x.contest(0, seed, 0, 0, 36);
      java.math.BigInteger z = java.math.BigInteger.valueOf(seed);
      for (int index = 0; index < 36; index++) {
        z = z.multiply(java.math.BigInteger.valueOf(1103515245)).add(java.math.BigInteger.valueOf(12345));
        z = z.mod(java.math.BigInteger.valueOf(2147483648L));
        int asked = index;
        Due.due("29: draw " + index + " of seed " + seed, () -> x.drawn(asked), z.intValue() / 65536 % 100);
      }
    }
  }

  /** Just one key has an image, so the others are drawn in vain. */
  private static Locihall withOneKey(int key) {
    Locihall x = Halls.withKeys(0);
    x.learn(0, key, 0);
    Halls.addPalace(x, 1, 9);
    return x;
  }

  private static void aHundredInVain() {
    for (int key : new int[] {0, 42, 99}) {
      for (int inVain : new int[] {0, 1, 98, 99, 100, 101}) {
        int seed = Halls.seedFor(key, inVain);
        Due.due("29: key " + key + " behind " + inVain, () -> withOneKey(key).contest(0, seed, 0, 0, 1),
            inVain < 100 ? 40 : Due.NONE.getSimpleName());
      }
    }
    Due.thrown("29: no key has an image", () -> withTwoOfAll().contest(0, 0, 0, 2, 1), Due.BOUNDS);
    Locihall x = withTwoOfAll();
    x.system(1);
    Due.thrown("29: no key has an image", () -> x.contest(0, 0, 0, 2, 1), Due.NONE);
  }

  /** Fewer than a hundred in vain for each of two keys, but more for both; and a hundred for the second one. */
  private static void oneBehindTheOther() {
    int both = Halls.seedForTwo(42, 0, 99, 100);
    Locihall x = withOneKey(42);
    Due.due("29: a hundred for two keys", () -> x.contest(0, both, 0, 0, 2), 80);
    Due.due("30: the first", () -> x.drawn(0), 42);
    Due.due("30: the second", () -> x.drawn(1), 42);
    int second = Halls.seedForTwo(42, 100, 1000, 100);
    Due.thrown("29: a hundred for the second key", () -> withOneKey(42).contest(0, second, 0, 0, 2), Due.NONE);
    Due.due("29: the first one alone", () -> withOneKey(42).contest(0, second, 0, 0, 1), 40);
  }

  private static void drawnNumbers() {
    for (int keys : new int[] {1, 2, 35, 36}) {
      Locihall x = Halls.withContests(3);
      x.contest(0, 5, 0, 0, keys);
      Due.range("30: index of " + keys, 0, keys - 1, index -> x.drawn(index), Due.NONE);
    }
    Due.range("30: index of none", 0, -1, index -> Halls.withContests(3).drawn(index), Due.NONE);
  }

  private static void drawnOfTheLastOne() {
    Locihall x = Halls.withContests(3);
    x.contest(0, 5, 0, 0, 36);
    x.answerAll(0);
    x.close();
    Due.due("30: closed, it is the last one yet", () -> x.drawn(35) >= 0, true);
    x.contest(0, 5, 0, 0, 2);
    Due.due("30: the second one of two", () -> x.drawn(1) >= 0, true);
    Due.thrown("30: a third one of two", () -> x.drawn(2), Due.NONE);
    Due.thrown("29: not closed", () -> x.contest(0, 5, 0, 0, 3), Due.CANNOT);
    Due.thrown("30: refused, so no third one", () -> x.drawn(2), Due.NONE);
  }

  private static Locihall withContestOf(int keys) {
    Locihall x = Halls.withContests(3);
    x.contest(2000, 5, 0, 0, keys);
    return x;
  }

  private static void answerNumbers() {
    Due.range("31: key", -1, 99, key -> withContestOf(2).answer(key, 0), Due.ARGUMENT);
    Due.range("31: tenths", 0, 9999, tenths -> withContestOf(2).answer(0, tenths), Due.ARGUMENT);
    Due.range("31: tenths of a missing one", 0, 9999, tenths -> withContestOf(2).answer(-1, tenths), Due.ARGUMENT);
    Due.range("32: tenths", 0, 9999, tenths -> withContestOf(2).answerAll(tenths), Due.ARGUMENT);
  }

  private static void asManyAnswersAsKeys() {
    for (int keys : new int[] {1, 2, 35, 36}) {
      Locihall x = withContestOf(keys);
      for (int given = 1; given <= keys; given++) {
        Due.thrown("34: " + (given - 1) + " of " + keys, () -> x.close(), Due.STATE);
        Due.due("31: answer " + given + " of " + keys, () -> x.answer(-1, 0), given);
      }
      Due.thrown("31: one more than " + keys, () -> x.answer(-1, 0), Due.STATE);
      Due.due("32: none are missing yet", () -> x.answerAll(0), 0);
      Due.due("34: all given", () -> x.close(), 0);
      Due.thrown("31: closed", () -> x.answer(-1, 0), Due.NONE);
    }
  }

  private static void answersByRecall() {
    for (int keys : new int[] {1, 2, 3, 4, 34, 35, 36}) {
      Locihall x = withContestOf(keys);
      Due.due("32: all of " + keys, () -> x.answerAll(9999), keys);
      Due.due("32: no more of " + keys, () -> x.answerAll(0), 0);
      Due.thrown("31: all are given", () -> x.answer(0, 0), Due.STATE);
      Due.due("34: all right", () -> x.close(), keys);
    }
  }

  private static void answersThatAreMissingYet() {
    for (int given = 0; given <= 7; given++) {
      Locihall x = withContestOf(7);
      for (int index = 0; index < given; index++) {
        Halls.give(x, index, 'w', 0);
      }
      int left = 7 - given;
      Due.due("32: behind " + given + " by hand", () -> x.answerAll(0), left);
    }
  }

  /** One key at each of seven loci, all with images that hold; 65 years. */
  private static Locihall withSevenDrawn() {
    Locihall x = new Locihall();
    int vivid = x.image(0, 3);
    x.system(1);
    for (int key = 0; key < 100; key++) {
      x.learn(0, key, vivid);
    }
    x.palace();
    for (int strength : new int[] {9, 9, 1, 1, 1, 9, 9}) {
      x.locus(0, strength);
    }
    x.age(65);
    x.contest(2000, 5, 0, 0, 7);
    x.groups(0, 2);
    return x;
  }

  /** In place of what was laid at a locus its key again, with another image. */
  private static void layAgain(Locihall x, int at, int kind, int vividness) {
    x.wipe(0, at);
    Halls.learn(x, x.drawn(at), kind, vividness);
    Halls.lay(x, 0, at, x.drawn(at));
  }

  private static void answersOfAllKinds() {
    Locihall x = withSevenDrawn();
    x.wipe(0, 1);
    Halls.suggest(x, 0, 1, x.drawn(1));
    layAgain(x, 3, 4, 1);
    layAgain(x, 4, 2, 0);
    // A key that was not drawn lies on the third one, with an image that does not hold.
    int other = 0;
    while (isDrawn(x, other)) {
      other++;
    }
    Halls.learn(x, other, 3, 0);
    Halls.lay(x, 0, 2, other);
    x.wipe(0, 6);
    String signs = "rfgpir-";
    for (int at = 0; at < 7; at++) {
      int asked = at;
      Due.due("19: at " + at, () -> x.recall(0, asked), signs.charAt(at));
    }
    Due.due("32: by r, f, g, p, i and r, but not by nothing", () -> x.answerAll(50), 6);
    x.book(2000, 7, 'h');
    Due.due("34: six, and one that is missing", () -> x.close(), 6);
  }

  private static boolean isDrawn(Locihall x, int key) {
    for (int index = 0; index < 7; index++) {
      if (x.drawn(index) == key) {
        return true;
      }
    }
    return false;
  }

  private static void appealNumbers() {
    Due.range("33: index of none", 0, -1, index -> withContestOf(36).appeal(index), Due.NONE);
    for (int given : new int[] {1, 2, 35, 36}) {
      Due.range("33: index of " + given, 0, given - 1, index -> withWrong(given).appeal(index), Due.NONE);
    }
  }

  private static Locihall withWrong(int answers) {
    Locihall x = withContestOf(36);
    for (int index = 0; index < answers; index++) {
      x.answer(-1, 0);
    }
    return x;
  }

  private static void digitsTheOtherWayRound() {
    for (int key : new int[] {1, 9, 10, 12, 21, 50, 89, 90, 98}) {
      Locihall x = withOneDrawn(key);
      x.answer(Halls.reversed(key), 0);
      Due.due("33: " + key + " the other way round", () -> x.appeal(0), true);
      Due.due("34: it counts", () -> x.close(), 1);
      Locihall y = withOneDrawn(key);
      y.answer(key == 21 ? 22 : 21, 0);
      Due.due("33: not " + key, () -> y.appeal(0), key == 12);
    }
    for (int key : new int[] {0, 11, 99}) {
      Locihall x = withOneDrawn(key);
      x.answer(Halls.reversed(key), 0);
      Due.thrown("33: " + key + " is right", () -> x.appeal(0), Due.CANNOT);
    }
    Locihall z = withOneDrawn(10);
    z.answer(-1, 0);
    Due.due("33: a missing one", () -> z.appeal(0), false);
    Due.due("34: it counts nothing", () -> z.close(), 0);
  }

  private static Locihall withOneDrawn(int key) {
    Locihall x = Halls.withContests(1);
    x.book(0, 1, 'z');
    x.contest(0, Halls.seedFor(key, 0), 0, 0, 1);
    return x;
  }

  private static void twoAppeals() {
    Locihall x = withOneDrawn(12);
    x.answer(-1, 0);
    Due.due("33: a first one", () -> x.appeal(0), false);
    Due.due("33: a second one", () -> x.appeal(0), false);
    Due.thrown("33: a third one", () -> x.appeal(0), Due.CANNOT);
    x.close();
    x.contest(0, Halls.seedFor(12, 0), 0, 0, 1);
    x.answer(21, 0);
    Due.due("33: a first one in the next contest", () -> x.appeal(0), true);
    Due.thrown("33: it is right", () -> x.appeal(0), Due.CANNOT);
  }

  /** With as many right answers that were fast, slow and wrong. */
  private static boolean suspect(int fast, int slow, int wrong) {
    Locihall x = withContestOf(36);
    for (int index = 0; index < fast + slow + wrong; index++) {
      Halls.give(x, index, index < fast + slow ? 'r' : 'w', index < fast ? 11 : index < fast + slow ? 12 : 0);
    }
    return x.isSuspect();
  }

  private static void moreThanHalf() {
    Due.due("37: no answers", () -> suspect(0, 0, 0), false);
    Due.due("37: just wrong ones", () -> suspect(0, 0, 36), false);
    Due.due("37: one slow one", () -> suspect(0, 1, 0), false);
    Due.due("37: one fast one", () -> suspect(1, 0, 35), true);
    Due.due("37: one of two", () -> suspect(1, 1, 34), false);
    Due.due("37: two of three", () -> suspect(2, 1, 0), true);
    Due.due("37: one of three", () -> suspect(1, 2, 3), false);
    Due.due("37: two of four", () -> suspect(2, 2, 0), false);
    Due.due("37: three of five", () -> suspect(3, 2, 0), true);
    Due.due("37: 18 of 36", () -> suspect(18, 18, 0), false);
    Due.due("37: 18 of 35", () -> suspect(18, 17, 1), true);
    Due.due("37: 19 of 36", () -> suspect(19, 17, 0), true);
    Due.due("37: 36 of 36", () -> suspect(36, 0, 0), true);
  }

  private static void fewerTenths() {
    for (int skill = 0; skill <= 9; skill++) {
      for (int tenths : new int[] {0, 11 - skill, 12 - skill, 9999}) {
        Locihall x = withOneKey(42);
        x.contest(0, Halls.seedFor(42, 0), 0, 0, 1);
        x.answer(42, tenths);
        for (int hour = 0; hour < skill; hour++) {
          x.train(0, 1);
        }
        Due.due("37: " + tenths + " tenths by skill " + skill, () -> x.isSuspect(), tenths < 12 - skill);
      }
    }
  }

  private static void fewerByAnAppeal() {
    Locihall x = withOneDrawn(12);
    x.answer(21, 0);
    Due.due("37: wrong yet", () -> x.isSuspect(), false);
    x.appeal(0);
    Due.due("37: right by an appeal", () -> x.isSuspect(), true);
    x.close();
    Due.due("37: closed", () -> x.isSuspect(), true);
  }

  private static void nobodySuspect() {
    Locihall x = withContestOf(3);
    Due.due("37: begun, not answered", () -> x.isSuspect(), false);
    x.answerAll(0);
    Due.due("37: answered", () -> x.isSuspect(), true);
    x.close();
    x.contest(0, 5, 0, 0, 1);
    Due.due("37: the next one, not answered", () -> x.isSuspect(), false);
  }
}
