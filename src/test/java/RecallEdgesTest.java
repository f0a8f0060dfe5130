/** Promises 19 to 22 and 25: each bound that the document names for recall, walks, parities and sleep, on both sides. */
public final class RecallEdgesTest {
  public static void main(String[] args) {
    twentyOrMore();
    tenOrMore();
    byHours();
    atTwoHundred();
    ghostOfTwenty();
    ghostAtTheBottom();
    ghostNearestTheTop();
    suggested();
    whichKey();
    guessedKeys();
    guessedOnes();
    walked();
    walkedTo();
    walkedUpToTwoHundred();
    groupSizes();
    howManyGroups();
    oneMissing();
    inNoGroup();
    justBehindTheGroups();
    oneInEachGroup();
    aSmallerLastGroup();
    moduloAHundred();
    othersByR();
    justWhatIsMissing();
    anImageForTheKey();
    withoutATraceWhenTold();
    asManyAsThereWere();
    inPlaceOfOthers();
    hoursOfSleep();
    sixHoursOrMore();
    behindTheLastSleep();
    sleptUpToTwoHundred();
    Due.end();
  }

  /** What one trace of the vividness 0 tells at an age. */
  private static char signAt(int strength, int years) {
    Locihall x = Halls.withWalk(1, strength);
    Halls.lay(x, 0, 0, 10);
    x.age(years);
    return x.recall(0, 0);
  }

  private static void twentyOrMore() {
    Due.due("19: 30", () -> signAt(3, 20), 'r');
    Due.due("19: just 20", () -> signAt(2, 64), 'r');
    Due.due("19: 19", () -> signAt(2, 65), 'p');
    Due.due("19: 20 by 32 less 12", () -> signAt(3, 110), 'r');
    Due.due("19: 19 by 30 less 11", () -> signAt(3, 115), 'p');
  }

  private static void tenOrMore() {
    Due.due("19: just 10", () -> signAt(1, 64), 'p');
    Due.due("19: 9", () -> signAt(1, 65), '-');
    Due.due("19: 10 by 20 less 10", () -> signAt(2, 110), 'p');
    Due.due("19: 9 by 20 less 11", () -> signAt(2, 115), '-');
    Due.due("19: 0", () -> signAt(1, 120), '-');
    Due.due("19: nothing laid", () -> Halls.withWalk(1, 9).recall(0, 0), '-');
  }

  private static void byHours() {
    Locihall x = Halls.withWalk(1, 4);
    Halls.lay(x, 0, 0, 10);
    x.pass(20);
    Due.due("19: 800 by 40", () -> x.recall(0, 0), 'r');
    x.pass(1);
    Due.due("19: 800 by 41", () -> x.recall(0, 0), 'p');
    x.pass(39);
    Due.due("19: 800 by 80", () -> x.recall(0, 0), 'p');
    x.pass(1);
    Due.due("19: 800 by 81", () -> x.recall(0, 0), '-');
    x.cue(0, 0, true);
    Due.due("19: 5 more", () -> x.recall(0, 0), 'p');
  }

  private static void atTwoHundred() {
    Locihall x = walkedFrom(100, 10);
    x.pass(180);
    Due.due("19: 4000 by 200", () -> x.recall(0, 0), 'r');
    x.pass(1);
    Due.due("19: 4000 by 201", () -> x.recall(0, 0), 'p');
    x.pass(199);
    Due.due("19: 4000 by 400", () -> x.recall(0, 0), 'p');
    x.pass(1);
    Due.due("19: 4000 by 401", () -> x.recall(0, 0), '-');
  }

  /** On a locus of strength 1 a trace that holds 20, and some on it that hold 10. */
  private static Locihall withGhost(int onIt) {
    Locihall x = Halls.withWalk(1, 1);
    Halls.learn(x, 20, 3, 2);
    Halls.lay(x, 0, 0, 20);
    for (int count = 0; count < onIt; count++) {
      Halls.lay(x, 0, 0, 10);
    }
    return x;
  }

  private static void ghostOfTwenty() {
    Locihall x = withGhost(1);
    Due.due("19: 20 under 10", () -> x.recall(0, 0), 'g');
    Due.due("20: what the ghost tells", () -> x.recalled(0, 0, 0), 20);
    x.age(64);
    Due.due("19: 20 under 10 yet", () -> x.recall(0, 0), 'g');
    x.age(65);
    Due.due("19: 19 under 9", () -> x.recall(0, 0), '-');
    Due.thrown("20: no ghost", () -> x.recalled(0, 0, 0), Due.NONE);
    x.wipe(0, 0);
    Due.due("19: a guess of its own", () -> x.recall(0, 0), 'p');
    x.age(64);
    Due.due("19: topmost", () -> x.recall(0, 0), 'r');
  }

  private static void ghostAtTheBottom() {
    for (int onIt = 1; onIt <= 5; onIt++) {
      Locihall x = withGhost(onIt);
      Due.due("19: a ghost under " + onIt, () -> x.recall(0, 0), 'g');
      Due.due("20: what it tells", () -> x.recalled(0, 0, 0), 20);
    }
    Locihall x = withGhost(6);
    Due.due("19: with a seventh it is gone", () -> x.recall(0, 0), 'p');
    Due.due("20: so the topmost one is guessed", () -> x.recalled(0, 0, 0), 10);
  }

  private static void ghostNearestTheTop() {
    Locihall x = withGhost(1);
    Halls.learn(x, 30, 4, 3);
    Halls.lay(x, 0, 0, 30);
    Halls.lay(x, 0, 0, 11);
    Due.due("19: two could be ghosts", () -> x.recall(0, 0), 'g');
    Due.due("20: the first one from the topmost down", () -> x.recalled(0, 0, 0), 30);
    x.age(85);
    Due.due("19: the nearer one holds 20", () -> x.recalled(0, 0, 0), 30);
    x.age(90);
    Due.due("19: neither holds 20", () -> x.recall(0, 0), '-');
    x.age(69);
    Due.due("19: the nearer one holds 24, the other 19", () -> x.recalled(0, 0, 0), 30);
  }

  private static void suggested() {
    for (int strength = 1; strength <= 3; strength++) {
      Locihall x = Halls.withWalk(1, strength);
      Halls.suggest(x, 0, 0, 10);
      Due.due("19: suggested, " + strength, () -> x.recall(0, 0), strength >= 2 ? 'f' : 'p');
      Due.due("20: suggested, " + strength, () -> x.recalled(0, 0, 0), 10);
      x.age(65);
      Due.due("19: one less, " + strength, () -> x.recall(0, 0), strength == 3 ? 'f' : strength == 2 ? 'p' : '-');
    }
    Locihall x = Halls.withWalk(1, 1);
    Halls.learn(x, 20, 3, 2);
    Halls.suggest(x, 0, 0, 20);
    Halls.suggest(x, 0, 0, 10);
    Due.due("19: a suggested ghost under a suggested one", () -> x.recall(0, 0), 'g');
    Due.due("21: it is not walked to", () -> x.walk(0), 0);
    x.wipe(0, 0);
    Due.due("21: topmost it is", () -> x.walk(0), 1);
  }

  private static void whichKey() {
    Due.range("20: which", 0, 2, which -> withKeysLaid(2, 3).recalled(0, 0, which), Due.ARGUMENT);
    for (int laid = 1; laid <= 3; laid++) {
      for (int which = 0; which < 3; which++) {
        int asked = which;
        Object due = which < laid ? 12 - which % 2 : Due.NONE.getSimpleName();
        Locihall recalled = withKeysLaid(2, laid);
        Locihall guessed = withKeysLaid(1, laid);
        Due.due("20: recalled key " + which + " of " + laid, () -> recalled.recalled(0, 0, asked), due);
        Due.due("20: guessed key " + which + " of " + laid, () -> guessed.recalled(0, 0, asked), due);
        Due.thrown("20: of no trace", () -> Halls.withWalk(1, 1).recalled(0, 0, asked), Due.NONE);
      }
    }
  }

  /** Of the keys 12, 11 and 12, which are the lowest of their kinds too, as many as told. */
  private static Locihall withKeysLaid(int strength, int keys) {
    Locihall x = Halls.withWalk(1, strength);
    Halls.lay(x, 0, 0, java.util.Arrays.copyOf(new int[] {12, 11, 12}, keys));
    return x;
  }

  private static void guessedKeys() {
    Locihall x = Halls.withWalk(1, 1);
    Halls.learn(x, 99, 0, 0);
    Halls.lay(x, 0, 0, 99);
    Due.due("19: a guess", () -> x.recall(0, 0), 'p');
    Due.due("20: the lowest of its kind", () -> x.recalled(0, 0, 0), 10);
    x.learn(0, 10, 1);
    Due.due("20: just the highest key is of its kind", () -> x.recalled(0, 0, 0), 99);
    Halls.learn(x, 0, 0, 9);
    Due.due("20: the lowest key of all", () -> x.recalled(0, 0, 0), 0);
    x.learn(0, 0, 1);
    x.learn(0, 99, 1);
    Due.due("19: a guess all the same", () -> x.recall(0, 0), 'p');
    Due.thrown("20: none is of its kind", () -> x.recalled(0, 0, 0), Due.NONE);
  }

  private static void guessedOnes() {
    Locihall x = Halls.withWalk(1, 1);
    x.learn(0, 20, 0);
    x.system(1);
    x.learn(1, 5, 0);
    Halls.lay(x, 0, 0, 20, 14, 20);
    Due.due("20: the first one, not by the other system", () -> x.recalled(0, 0, 0), 10);
    Due.due("20: the third one, the same again", () -> x.recalled(0, 0, 2), 10);
    x.learn(0, 14, 3);
    Due.thrown("20: the second one is missing", () -> x.recalled(0, 0, 1), Due.NONE);
    Due.due("20: the third one is not", () -> x.recalled(0, 0, 2), 10);
    Due.due("19: a guess", () -> x.recall(0, 0), 'p');
  }

  private static void walked() {
    Due.due("21: no traces", () -> Halls.withWalk(12, 9).walk(0), 0);
    Locihall all = Halls.withWalk(12, 9);
    for (int at = 0; at < 12; at++) {
      Halls.lay(all, 0, at, 10 + at % 5);
    }
    Due.due("21: all loci", () -> all.walk(0), 12);
    Locihall x = Halls.withWalk(4, 1);
    Halls.learn(x, 20, 0, 2);
    Halls.learn(x, 21, 1, 2);
    Halls.lay(x, 0, 0, 20);
    Halls.suggest(x, 0, 1, 21);
    Halls.lay(x, 0, 2, 20);
    Halls.lay(x, 0, 2, 12);
    Halls.lay(x, 0, 3, 14);
    Due.due("21: r and f, not g and p", () -> x.walk(0), 2);
    x.age(120);
    x.groups(0, 4);
    Due.due("21: 30 less 12 is a guess", () -> x.walk(0), 0);
  }

  private static void walkedTo() {
    Locihall x = Halls.withWalk(2, 2);
    Halls.lay(x, 0, 0, 10);
    x.age(65);
    Due.due("21: 19 is not walked to", () -> x.walk(0), 0);
    x.age(64);
    Due.due("18: no more", () -> x.hold(0, 0, 0), 20f);
    Due.due("21: 20 is", () -> x.walk(0), 1);
    Due.due("18: 10 more", () -> x.hold(0, 0, 0), 30f);
    x.pass(10);
    Due.due("18: 600 by 30", () -> x.hold(0, 0, 0), 20f);
    Due.due("21: walked to again", () -> x.walk(0), 1);
    Due.due("18: 40 from now", () -> x.hold(0, 0, 0), 40f);
    Halls.lay(x, 0, 0, 11);
    Due.due("21: the topmost one alone", () -> x.walk(0), 1);
    Due.due("18: the one below has no more", () -> x.hold(0, 0, 1), 40f);
  }

  /** A trace that held as much at first, walked to as often in its hour. */
  private static Locihall walkedFrom(int first, int walks) {
    Locihall x = Halls.withWalk(1, 9);
    Halls.learn(x, 20, 0, (first - 90) / 5);
    Halls.lay(x, 0, 0, 20);
    for (int count = 0; count < walks; count++) {
      x.walk(0);
    }
    return x;
  }

  private static void walkedUpToTwoHundred() {
    Due.due("21: 180 and 10", () -> walkedFrom(90, 10).hold(0, 0, 0), 190f);
    Due.due("21: 190 and 10", () -> walkedFrom(90, 11).hold(0, 0, 0), 200f);
    Due.due("21: 200 and 10", () -> walkedFrom(90, 12).hold(0, 0, 0), 200f);
    Due.due("21: 185 and 10", () -> walkedFrom(95, 10).hold(0, 0, 0), 195f);
    Due.due("21: 195 and 10", () -> walkedFrom(95, 11).hold(0, 0, 0), 200f);
    Due.due("21: it counts as walked to", () -> walkedFrom(95, 11).walk(0), 1);
  }

  private static void groupSizes() {
    for (int size : new int[] {0, 2, 3, 4}) {
      Due.due("22: size " + size, () -> Halls.withWalk(4, 1).groups(0, size), size == 0 ? 0 : size == 4 ? 1 : 2);
    }
    for (int size : new int[] {Integer.MIN_VALUE, -2, -1, 1, 5, 6, 12, Integer.MAX_VALUE}) {
      Due.thrown("22: size " + size, () -> Halls.withWalk(4, 1).groups(0, size), Due.ARGUMENT);
    }
  }

  private static void howManyGroups() {
    for (int loci = 0; loci <= 12; loci++) {
      Locihall x = Halls.withWalk(loci, 1);
      for (int size = 2; size <= 4; size++) {
        int told = size;
        Due.due("22: " + loci + " loci by " + size, () -> x.groups(0, told), loci / size + (loci % size > 0 ? 1 : 0));
        Due.due("22: none", () -> x.groups(0, 0), 0);
      }
    }
  }

  /** A walk of loci with a trace each, of the keys 10 to 14 in turn, in groups; those named are missing. */
  private static Locihall withMissing(int loci, int size, int... missing) {
    Locihall x = Halls.withWalk(0, 1);
    for (int at = 0; at < loci; at++) {
      int asked = at;
      x.locus(0, java.util.Arrays.stream(missing).anyMatch(one -> one == asked) ? 1 : 9);
      Halls.lay(x, 0, at, 10 + at % 5);
    }
    x.groups(0, size);
    x.pass(1);
    return x;
  }

  private static void checkInferred(String what, Locihall x, int at) {
    Due.due("19: " + what, () -> x.recall(0, at), 'i');
    Due.due("20: " + what, () -> x.recalled(0, at, 0), 10 + at % 5);
    Due.thrown("20: another key, " + what, () -> x.recalled(0, at, 1), Due.NONE);
  }

  private static void oneMissing() {
    Due.due("19: without groups", () -> withMissing(4, 0, 1).recall(0, 1), '-');
    for (int size = 2; size <= 4; size++) {
      for (int at = 0; at < size; at++) {
        checkInferred(at + " of " + size, withMissing(size, size, at), at);
        for (int other = 0; other < size; other++) {
          if (other != at) {
            checkBoth(size, at, other);
          }
        }
      }
    }
  }

  /** A sum of nothing would ask for the key 0, which has an image here. */
  private static void inNoGroup() {
    Locihall x = withMissing(1, 0, 0);
    x.learn(0, 0, 0);
    Due.due("19: no groups were told", () -> x.recall(0, 0), '-');
    x.groups(0, 2);
    Due.due("19: they are told", () -> x.recall(0, 0), 'i');
    x.groups(0, 0);
    Due.due("19: none again", () -> x.recall(0, 0), '-');
    Due.thrown("20: none again", () -> x.recalled(0, 0, 0), Due.NONE);
  }

  /** The last group has room for more, but takes none that comes later. */
  private static void justBehindTheGroups() {
    for (int loci = 0; loci <= 3; loci++) {
      Locihall x = withMissing(loci, 4);
      int last = loci;
      x.learn(0, 0, 0);
      x.locus(0, 1);
      Halls.lay(x, 0, last, 14);
      x.pass(1);
      Due.due("19: behind a group of " + loci, () -> x.recall(0, last), '-');
      x.groups(0, 4);
      Due.due("19: in it, as it is told anew", () -> x.recall(0, last), 'i');
      Due.due("20: in it, as it is told anew", () -> x.recalled(0, last, 0), 14);
    }
  }

  private static void checkBoth(int size, int at, int other) {
    Due.due("19: beside a missing one of " + size, () -> withMissing(size, size, at).recall(0, other), 'r');
    Due.due("19: one of two missing ones of " + size, () -> withMissing(size, size, at, other).recall(0, at), '-');
    Due.thrown("20: one of two missing ones of " + size, () -> withMissing(size, size, at, other).recalled(0, at, 0), Due.NONE);
  }

  private static void oneInEachGroup() {
    for (int at = 0; at < 12; at += 3) {
      checkInferred("first in each of 3", withMissing(12, 3, 0, 3, 6, 9), at);
      checkInferred("last in each of 3", withMissing(12, 3, 2, 5, 8, 11), at + 2);
    }
    checkInferred("at the end of a group", withMissing(12, 3, 2, 3), 2);
    checkInferred("at the start of the next", withMissing(12, 3, 2, 3), 3);
    checkInferred("ahead of a lost group", withMissing(12, 4, 3, 4, 5), 3);
    Due.due("19: two of the next group", () -> withMissing(12, 4, 3, 4, 5).recall(0, 4), '-');
    checkInferred("behind a lost group", withMissing(12, 4, 6, 7, 8), 8);
  }

  private static void aSmallerLastGroup() {
    for (int size = 2; size <= 4; size++) {
      for (int loci = 2; loci <= 12; loci++) {
        int last = loci - 1;
        String what = "last of " + loci + " by " + size;
        checkInferred(what, withMissing(loci, size, last), last);
        Locihall x = withMissing(loci, size, last - 1, last);
        if (loci % size == 1) {
          checkInferred("alone in its group, " + what, x, last);
          checkInferred("in the group ahead, " + what, x, last - 1);
        } else {
          Due.due("19: both missing, " + what, () -> x.recall(0, last), '-');
          Due.due("19: both missing, " + what, () -> x.recall(0, last - 1), '-');
        }
      }
    }
  }

  /** The key that is inferred for the last one, the others being recalled. */
  private static Object inferred(int... keys) {
    Locihall x = Halls.withWalk(0, 1);
    for (int key : keys) {
      x.learn(0, key, 0);
    }
    for (int at = 0; at < keys.length; at++) {
      x.locus(0, at < keys.length - 1 ? 9 : 1);
      Halls.lay(x, 0, at, keys[at]);
    }
    x.groups(0, keys.length);
    x.pass(1);
    return x.recall(0, keys.length - 1) + " " + Due.answer(() -> x.recalled(0, keys.length - 1, 0));
  }

  private static void moduloAHundred() {
    Due.due("19: 0 and 0", () -> inferred(0, 0), "i 0");
    Due.due("19: 0 and 99", () -> inferred(0, 99), "i 99");
    Due.due("19: 99 and 0", () -> inferred(99, 0), "i 0");
    Due.due("19: 99 and 1 is 0", () -> inferred(99, 1), "i 1");
    Due.due("19: 1 and 99 is 0", () -> inferred(1, 99), "i 99");
    Due.due("19: 60, 40 and 0 is 0", () -> inferred(60, 40, 0), "i 0");
    Due.due("19: 99 thrice is 97", () -> inferred(99, 99, 99), "i 99");
    Due.due("19: 99 four times is 96", () -> inferred(99, 99, 99, 99), "i 99");
    Due.due("19: 99 thrice and 3 is 0", () -> inferred(99, 99, 99, 3), "i 3");
    Due.due("19: 99 thrice and 2 is 99", () -> inferred(99, 99, 99, 2), "i 2");
  }

  /** Two loci in a group; the second one is missing, the first one as told; its key is 10. */
  private static Locihall beside(String first) {
    Locihall x = Halls.withWalk(1, first.equals("g") || first.equals("p") ? 1 : 9);
    x.locus(0, 1);
    Halls.learn(x, 20, 3, 4);
    if (first.equals("g")) {
      Halls.lay(x, 0, 0, 20);
    }
    if (first.equals("f")) {
      Halls.suggest(x, 0, 0, 10);
    } else {
      Halls.lay(x, 0, 0, 10);
    }
    Halls.lay(x, 0, 1, 11);
    x.groups(0, 2);
    x.cue(0, 0, true);
    x.pass(1);
    return x;
  }

  private static void othersByR() {
    for (String first : new String[] {"r", "f", "g", "p"}) {
      Due.due("19: " + first, () -> beside(first).recall(0, 0), first.charAt(0));
      Due.due("19: beside " + first, () -> beside(first).recall(0, 1), first.equals("r") ? 'i' : '-');
      Due.due("20: beside " + first, () -> beside(first).recalled(0, 1, 0), first.equals("r") ? 11 : Due.NONE.getSimpleName());
    }
  }

  private static void justWhatIsMissing() {
    Locihall x = withMissing(2, 2, 1);
    checkInferred("9.5", x, 1);
    x.cue(0, 1, true);
    Due.due("19: a guess is not inferred", () -> x.recall(0, 1), 'p');
    x.cue(0, 1, false);
    Halls.learn(x, 20, 3, 9);
    Halls.lay(x, 0, 1, 20);
    Halls.lay(x, 0, 1, 12);
    x.pass(1);
    Due.due("19: a ghost is not inferred", () -> x.recall(0, 1), 'g');
    Due.due("21: what is inferred is not walked to", () -> withMissing(2, 2, 1).walk(0), 1);
    Due.due("51: what is inferred is not recalled by r", () -> withMissing(2, 2, 1).heldShare(), 0.5f);
  }

  private static void anImageForTheKey() {
    Locihall x = Halls.withWalk(1, 9);
    x.locus(0, 1);
    x.system(1);
    x.learn(1, 11, 1);
    Halls.lay(x, 0, 0, 10);
    x.key(11);
    x.lay(0, 1, 1, false);
    x.groups(0, 2);
    x.pass(1);
    Due.due("19: by the system of its trace", () -> x.recall(0, 1), 'i');
    Halls.lay(x, 0, 0, 12);
    // 21 less 12 is 9.
    Due.due("19: 9 has no image", () -> x.recall(0, 1), '-');
    x.learn(0, 9, 0);
    Due.due("19: just in another system", () -> x.recall(0, 1), '-');
    x.learn(1, 9, 0);
    Due.due("19: 9 has an image", () -> x.recall(0, 1), 'i');
    Due.due("20: 9", () -> x.recalled(0, 1, 0), 9);
  }

  private static void withoutATraceWhenTold() {
    Locihall x = Halls.withWalk(1, 9);
    x.locus(0, 1);
    Halls.lay(x, 0, 0, 10);
    x.groups(0, 2);
    Due.due("19: missing, but of no system", () -> x.recall(0, 1), '-');
    Due.thrown("20: missing, but of no system", () -> x.recalled(0, 1, 0), Due.NONE);
    Halls.lay(x, 0, 1, 14);
    x.pass(1);
    Due.due("19: 0 has no image", () -> x.recall(0, 1), '-');
    x.learn(0, 0, 1);
    Due.due("19: 10 and 0", () -> x.recall(0, 1), 'i');
    Due.due("20: 0 for a locus without one", () -> x.recalled(0, 1, 0), 0);
    x.wipe(0, 0);
    Due.due("19: beside none", () -> x.recall(0, 1), '-');
  }

  private static void asManyAsThereWere() {
    Locihall x = withMissing(3, 2, 2);
    checkInferred("alone, as there were three", x, 2);
    x.locus(0, 1);
    Halls.lay(x, 0, 3, 13);
    x.pass(1);
    Due.due("19: the fourth is in no group", () -> x.recall(0, 3), '-');
    checkInferred("it is alone yet", x, 2);
    Due.due("22: told anew", () -> x.groups(0, 2), 2);
    Due.due("19: two of them are missing", () -> x.recall(0, 2), '-');
    Due.due("22: by four", () -> x.groups(0, 4), 1);
    Due.due("19: two of them are missing", () -> x.recall(0, 3), '-');
    Halls.lay(x, 0, 2, 12, 13);
    Due.due("19: 20 now", () -> x.recall(0, 2), 'r');
    checkInferred("the fourth by four", x, 3);
  }

  private static void inPlaceOfOthers() {
    Locihall x = withMissing(4, 4, 0, 1);
    Due.due("19: two of four", () -> x.recall(0, 1), '-');
    x.groups(0, 2);
    Due.due("19: two of two", () -> x.recall(0, 1), '-');
    x.groups(0, 3);
    Due.due("19: two of three", () -> x.recall(0, 1), '-');
    x.wipe(0, 0);
    Halls.lay(x, 0, 0, 10, 11);
    Due.due("19: 20 now", () -> x.recall(0, 0), 'r');
    checkInferred("one of three", x, 1);
    Due.thrown("22: size 1 is refused", () -> x.groups(0, 1), Due.ARGUMENT);
    checkInferred("they hold", x, 1);
    x.palace();
    Due.due("22: of another palace", () -> x.groups(1, 2), 0);
    checkInferred("they hold", x, 1);
    x.groups(0, 0);
    Due.due("19: no groups any more", () -> x.recall(0, 1), '-');
  }

  private static void hoursOfSleep() {
    Due.range("25: hours", 1, 16, hours -> new Locihall().sleep(hours), Due.ARGUMENT);
    Locihall x = new Locihall();
    Due.due("25: no traces", () -> x.sleep(16), 0);
    Due.due("25: no traces", () -> x.sleep(1), 0);
    Due.due("24: its hours pass", () -> x.pass(1), 18);
  }

  private static void sixHoursOrMore() {
    for (int hours = 1; hours <= 16; hours++) {
      Locihall x = Halls.withWalk(2, 9);
      Halls.lay(x, 0, 0, 10);
      Halls.lay(x, 0, 0, 11);
      Halls.lay(x, 0, 1, 12);
      int slept = hours;
      Due.due("25: " + hours + " hours", () -> x.sleep(slept), hours >= 6 ? 3 : 0);
      float hold = hours >= 6 ? 98f : 90f;
      Due.due("18: behind " + hours + " hours", () -> x.hold(0, 0, 0), hold * 20f / (20f + slept));
      Due.due("18: the buried one", () -> x.hold(0, 0, 1), hold * 20f / (20f + slept));
    }
  }

  private static void behindTheLastSleep() {
    Locihall x = Halls.withWalk(4, 9);
    Halls.lay(x, 0, 0, 10);
    x.pass(999);
    Due.due("25: or ever, without one", () -> x.sleep(6), 1);
    Due.due("25: not again", () -> x.sleep(6), 0);
    Halls.lay(x, 0, 1, 11);
    Due.due("25: also in the hour in which that ended", () -> x.sleep(6), 1);
    Halls.lay(x, 0, 2, 12);
    Due.due("25: 5 hours are no such sleep", () -> x.sleep(5), 0);
    Due.due("25: so it is laid behind the last one", () -> x.sleep(6), 1);
    x.pass(1);
    Halls.lay(x, 0, 3, 13);
    Due.due("25: an hour behind it", () -> x.sleep(6), 1);
    Due.due("21: those that hold 20", () -> x.walk(0), 3);
    Due.due("25: walked to in the hour in which that ended", () -> x.sleep(6), 3);
    Due.due("25: none since", () -> x.sleep(16), 0);
    x.pass(1);
    x.walk(0);
    Due.due("25: walked to an hour behind it", () -> x.sleep(6), 3);
  }

  private static void sleptUpToTwoHundred() {
    checkSlept("182 and 8", withHold(152, 3), 1, 190f);
    checkSlept("190 and 8", walkedFrom(90, 10), 1, 198f);
    checkSlept("192 and 8", withHold(152, 4), 1, 200f);
    checkSlept("195 and 8", walkedFrom(95, 10), 1, 200f);
    checkSlept("200 and 8", walkedFrom(90, 11), 0, 200f);
  }

  /** By four nights with a walk between them 90 and 62 more; then some walks. */
  private static Locihall withHold(int behindNights, int walks) {
    Locihall x = walkedFrom(90, 0);
    x.sleep(6);
    for (int count = 0; count < 3; count++) {
      x.walk(0);
      x.sleep(6);
    }
    Due.due("18: behind four nights", () -> x.hold(0, 0, 0), behindNights * 20f / 26f);
    for (int count = 0; count < walks; count++) {
      x.walk(0);
    }
    return x;
  }

  private static void checkSlept(String what, Locihall x, int more, float hold) {
    Due.due("25: how many hold more, " + what, () -> x.sleep(6), more);
    Due.due("18: " + what, () -> x.hold(0, 0, 0), hold * 20f / 26f);
  }
}
