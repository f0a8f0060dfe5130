/** Promises 1 to 11: each bound that the document names for images, systems and tongues, on both sides. */
public final class ImageEdgesTest {
  public static void main(String[] args) {
    kindsAndVividness();
    thirtyImages();
    fourSystems();
    keysAtALocus();
    systemNumbers();
    systemNumbersOfNone();
    keyNumbers();
    noneAtFirst();
    howManyHaveImages();
    skillOfNine();
    tongueNumbers();
    letters();
    noTwoTheSame();
    allDigits();
    takenOverWithoutLetters();
    takenOverWithoutImages();
    takenOverWhole();
    takenOverAtTheEnds();
    halfOfASkill();
    allOthersAsTheyWere();
    hoursOfTraining();
    hoursOfUse();
    lowestKeyOfTheLowest();
    savedNumbers();
    savedTenths();
    paysBackNumbers();
    meansAsFractions();
    Due.end();
  }

  private static void kindsAndVividness() {
    Due.range("2: kind", 0, 4, kind -> new Locihall().image(kind, 0), Due.ARGUMENT);
    Due.range("2: kind, with the vividness 9,", 0, 4, kind -> new Locihall().image(kind, 9), Due.ARGUMENT);
    Due.range("2: vividness", 0, 9, vividness -> new Locihall().image(0, vividness), Due.ARGUMENT);
    Due.range("2: vividness, with the kind 4,", 0, 9, vividness -> new Locihall().image(4, vividness), Due.ARGUMENT);
  }

  private static void thirtyImages() {
    Locihall x = new Locihall();
    x.system(1);
    Due.thrown("4: no image yet", () -> x.learn(0, 0, 0), Due.BOUNDS);
    for (int image = 0; image < 30; image++) {
      int number = image;
      Due.thrown("4: image " + number + " is still to come", () -> x.learn(0, 0, number), Due.BOUNDS);
      Due.due("2: image " + number, () -> x.image(number % 5, 9), number);
      Due.due("4: image " + number, () -> x.learn(0, 0, number), 1);
    }
    Due.thrown("2: a 31st image", () -> x.image(0, 0), Due.STATE);
    Due.thrown("4: no image 30", () -> x.learn(0, 0, 30), Due.BOUNDS);
    Due.due("5: the image 29", () -> x.imageOf(0, 0), 29);
  }

  private static void fourSystems() {
    Locihall x = new Locihall();
    for (int system = 0; system < 4; system++) {
      int number = system;
      Due.thrown("6: system " + number + " is still to come", () -> x.skill(number, 0), Due.BOUNDS);
      Due.due("3: system " + number, () -> x.system(1), number);
      Due.due("6: system " + number, () -> x.skill(number, 0), 0);
    }
    Due.thrown("3: a fifth system", () -> x.system(1), Due.STATE);
    Due.thrown("6: no system 4", () -> x.skill(4, 0), Due.BOUNDS);
  }

  private static void keysAtALocus() {
    Due.range("3: keys", 1, 3, keys -> new Locihall().system(keys), Due.ARGUMENT);
    for (int most = 1; most <= 3; most++) {
      for (int keys = 1; keys <= 3; keys++) {
        Locihall x = withSystemOf(most);
        for (int count = 0; count < keys; count++) {
          x.key(7);
        }
        Due.due("16: " + keys + " keys, of a system that lays " + most, () -> x.lay(0, 0, 0, false),
            keys <= most ? 40 * keys : Due.CANNOT.getSimpleName());
      }
    }
  }

  private static Locihall withSystemOf(int keys) {
    Locihall x = new Locihall();
    x.image(0, 0);
    x.system(keys);
    x.learn(0, 7, 0);
    Halls.addPalace(x, 1, 5);
    return x;
  }

  /** Two systems, the first one with the keys 0 to 99; one locus. */
  private static Locihall withTwoSystems() {
    Locihall x = Halls.withContests(1, 1);
    x.system(1);
    x.learn(1, 10, 0);
    return x;
  }

  private static void systemNumbers() {
    Due.range("4: system", 0, 1, system -> withTwoSystems().learn(system, 10, 0), Due.BOUNDS);
    Due.range("4: image", 0, 1, image -> withTwoSystems().learn(1, 10, image), Due.BOUNDS);
    Due.range("5: system", 0, 1, system -> withTwoSystems().imageOf(system, 10), Due.BOUNDS);
    Due.range("6: system", 0, 1, system -> withTwoSystems().skill(system, 10), Due.BOUNDS);
    Due.range("8: system", 0, 1, system -> withTwoSystems().takeOver(system, system == 1 ? 0 : 1, 0, 1), Due.BOUNDS);
    Due.range("8: other system", 0, 1, from -> withTwoSystems().takeOver(from == 1 ? 0 : 1, from, 0, 1), Due.BOUNDS);
    Due.range("9: system", 0, 1, system -> withTwoSystems().train(system, 1), Due.BOUNDS);
    Due.range("10: system", 0, 1, system -> withTwoSystems().saved(system, 1, 1), Due.BOUNDS);
    Due.range("11: system", 0, 1, system -> withTwoSystems().paysBack(system, 0, 0), Due.BOUNDS);
    Due.range("11: other system", 0, 1, to -> withTwoSystems().paysBack(0, to, 0), Due.BOUNDS);
  }

  private static void systemNumbersOfNone() {
    Due.range("4: system of none", 0, -1, system -> new Locihall().learn(system, 10, 0), Due.BOUNDS);
    Due.range("5: system of none", 0, -1, system -> new Locihall().imageOf(system, 10), Due.BOUNDS);
    Due.range("6: system of none", 0, -1, system -> new Locihall().skill(system, 10), Due.BOUNDS);
    Due.range("8: system of none", 0, -1, system -> new Locihall().takeOver(system, 1, 0, 1), Due.BOUNDS);
    Due.range("9: system of none", 0, -1, system -> new Locihall().train(system, 1), Due.BOUNDS);
    Due.range("10: system of none", 0, -1, system -> new Locihall().saved(system, 1, 1), Due.BOUNDS);
    Due.range("11: system of none", 0, -1, system -> new Locihall().paysBack(system, 1, 0), Due.BOUNDS);
  }

  private static void keyNumbers() {
    Due.range("4: key", 0, 99, key -> withTwoSystems().learn(0, key, 0), Due.ARGUMENT);
    Due.range("5: key", 0, 99, key -> withTwoSystems().imageOf(0, key), Due.ARGUMENT);
    Due.range("6: key", 0, 99, key -> withTwoSystems().skill(0, key), Due.ARGUMENT);
  }

  private static void noneAtFirst() {
    Locihall x = new Locihall();
    x.image(0, 0);
    x.system(2);
    for (int key = 0; key < 100; key++) {
      int asked = key;
      Due.thrown("5: none at first, key " + key, () -> x.imageOf(0, asked), Due.NONE);
      Due.due("6: 0 at first, key " + key, () -> x.skill(0, asked), 0);
    }
    x.learn(0, 50, 0);
    Due.thrown("5: none below it", () -> x.imageOf(0, 49), Due.NONE);
    Due.thrown("5: none above it", () -> x.imageOf(0, 51), Due.NONE);
    Due.due("5: it has one", () -> x.imageOf(0, 50), 0);
  }

  private static void howManyHaveImages() {
    Locihall x = new Locihall();
    x.image(0, 0);
    x.image(0, 9);
    x.system(1);
    for (int key = 0; key < 100; key++) {
      int learnt = key;
      Due.due("4: how many, with key " + key, () -> x.learn(0, learnt, 0), key + 1);
    }
    Due.due("4: all of them, key 0 anew", () -> x.learn(0, 0, 1), 100);
    Due.due("4: all of them, key 99 anew", () -> x.learn(0, 99, 1), 100);
    Due.due("5: the new one of key 0", () -> x.imageOf(0, 0), 1);
    Due.due("5: the new one of key 99", () -> x.imageOf(0, 99), 1);
    Due.due("5: the old one of key 98", () -> x.imageOf(0, 98), 0);
  }

  private static void skillOfNine() {
    Locihall x = Halls.withKeys(1);
    for (int skill = 1; skill <= 9; skill++) {
      Due.due("9: an hour of use, up to " + skill, () -> x.train(0, 1), 1);
      Due.due("6: skill", () -> x.skill(0, 0), skill);
    }
    Due.due("9: none above 9", () -> x.train(0, 1), 0);
    Due.due("6: at most 9", () -> x.skill(0, 0), 9);
    x.learn(0, 0, 0);
    Due.due("4: the skill is 0 then, from 9", () -> x.skill(0, 0), 0);
    Due.due("9: an hour of use again", () -> x.train(0, 1), 1);
  }

  private static void tongueNumbers() {
    Due.range("7: tongue", 0, 2, tongue -> new Locihall().tongue(tongue, 0, 'a'), Due.ARGUMENT);
    Due.range("7: digit", 0, 9, digit -> new Locihall().tongue(0, digit, 'a'), Due.ARGUMENT);
    Due.range("8: tongue", 0, 2, tongue -> withTwoSystems().takeOver(0, 1, tongue, 0), Due.ARGUMENT);
    Due.range("8: other tongue", 0, 2, other -> withTwoSystems().takeOver(0, 1, 0, other), Due.ARGUMENT);
    Due.thrown("8: both systems are the same", () -> withTwoSystems().takeOver(0, 0, 0, 1), Due.ARGUMENT);
    Due.thrown("8: both systems are the same", () -> withTwoSystems().takeOver(1, 1, 0, 1), Due.ARGUMENT);
    Due.due("8: both tongues may be the same", () -> withTwoSystems().takeOver(0, 1, 2, 2), 0);
  }

  private static void letters() {
    for (char letter : new char[] {'a', 'b', 'y', 'z'}) {
      Due.due("7: letter " + letter, () -> new Locihall().tongue(2, 9, letter), 1);
    }
    for (char letter : new char[] {0, ' ', '0', 'A', 'Z', '`', '{', 127, 225, 'a' + 256, 0xffff}) {
      Due.thrown("7: letter " + (int) letter, () -> new Locihall().tongue(2, 9, letter), Due.ARGUMENT);
    }
  }

  private static void noTwoTheSame() {
    Locihall x = new Locihall();
    Due.due("7: z is free at first", () -> x.tongue(0, 9, 'z'), 1);
    Due.due("7: its own letter again", () -> x.tongue(0, 9, 'z'), 1);
    Due.thrown("7: another digit has it", () -> x.tongue(0, 0, 'z'), Due.CANNOT);
    Due.thrown("7: another digit has it", () -> x.tongue(0, 8, 'z'), Due.CANNOT);
    Due.due("7: in another tongue it is free", () -> x.tongue(1, 0, 'z'), 1);
    Due.due("7: a letter beside it is free", () -> x.tongue(0, 0, 'y'), 2);
    Due.due("7: it gives its letter up", () -> x.tongue(0, 9, 'x'), 2);
    Due.due("7: so it is free", () -> x.tongue(0, 8, 'z'), 3);
    Due.thrown("7: and taken again", () -> x.tongue(0, 9, 'z'), Due.CANNOT);
  }

  private static void allDigits() {
    Locihall x = new Locihall();
    for (int digit = 0; digit < 10; digit++) {
      int told = digit;
      Due.due("7: letters, with digit " + digit, () -> x.tongue(1, told, (char) ('a' + told)), digit + 1);
    }
    Due.due("7: all have letters", () -> x.tongue(1, 0, 'z'), 10);
    Due.due("7: all have letters", () -> x.tongue(1, 9, 'a'), 10);
    Due.thrown("7: another digit has b", () -> x.tongue(1, 9, 'b'), Due.CANNOT);
    Due.due("7: none in the next tongue", () -> x.tongue(2, 9, 'b'), 1);
  }

  /** System 0 without images, system 1 with all of them; no letters. */
  private static Locihall withAllToTakeOver() {
    Locihall x = new Locihall();
    x.image(0, 0);
    x.image(1, 0);
    x.system(1);
    x.system(1);
    for (int key = 0; key < 100; key++) {
      x.learn(1, key, key / 50);
    }
    return x;
  }

  private static void takenOverWithoutLetters() {
    Locihall x = withAllToTakeOver();
    Due.due("8: no letters at all", () -> x.takeOver(0, 1, 0, 1), 0);
    Due.due("8: no letters, the same tongue", () -> x.takeOver(0, 1, 0, 0), 0);
    x.tongue(0, 4, 'k');
    Due.due("8: no letters in the other tongue", () -> x.takeOver(0, 1, 0, 1), 0);
    Due.due("8: no letters in the first tongue", () -> x.takeOver(0, 1, 1, 0), 0);
    x.tongue(1, 6, 'm');
    Due.due("8: no letter in common", () -> x.takeOver(0, 1, 0, 1), 0);
    x.tongue(1, 5, 'k');
    Due.due("8: one letter in common, twice in a key", () -> x.takeOver(0, 1, 0, 1), 1);
    Due.due("8: 44 is spelled as 55", () -> x.imageOf(0, 44), 1);
    x.tongue(0, 7, 'm');
    Due.due("8: two letters in common", () -> x.takeOver(0, 1, 0, 1), 4);
    Due.due("8: 47 is spelled as 56", () -> x.imageOf(0, 47), 1);
    Due.due("8: 74 is spelled as 65", () -> x.imageOf(0, 74), 1);
    Due.thrown("8: 46 is not spelled", () -> x.imageOf(0, 46), Due.NONE);
  }

  private static void takenOverWithoutImages() {
    Locihall x = withAllToTakeOver();
    x.tongue(0, 4, 'k');
    x.tongue(1, 5, 'k');
    Due.due("8: no images there", () -> x.takeOver(1, 0, 0, 1), 0);
    Due.due("8: it stays", () -> x.imageOf(1, 44), 0);
    x.learn(0, 54, 1);
    Due.due("8: just a key that is not spelled has one", () -> x.takeOver(1, 0, 0, 1), 0);
    x.learn(0, 55, 1);
    Due.due("8: the key that is spelled has one", () -> x.takeOver(1, 0, 0, 1), 1);
    Due.due("8: it is taken over", () -> x.imageOf(1, 44), 1);
  }

  private static void takenOverWhole() {
    Locihall x = withAllToTakeOver();
    for (int digit = 0; digit < 10; digit++) {
      x.tongue(0, digit, (char) ('a' + digit));
      x.tongue(2, digit, (char) ('j' - digit));
    }
    Due.due("8: all of them", () -> x.takeOver(0, 1, 0, 2), 100);
    Due.due("8: 00 is spelled as 99", () -> x.imageOf(0, 0), 1);
    Due.due("8: 49 is spelled as 50", () -> x.imageOf(0, 49), 1);
    Due.due("8: 50 is spelled as 49", () -> x.imageOf(0, 50), 0);
    Due.due("8: 99 is spelled as 00", () -> x.imageOf(0, 99), 0);
    Due.due("8: by the same tongue each is itself", () -> x.takeOver(0, 1, 2, 2), 100);
    Due.due("8: 99 is spelled as 99", () -> x.imageOf(0, 99), 1);
  }

  private static void takenOverAtTheEnds() {
    Locihall x = withAllToTakeOver();
    x.tongue(0, 0, 'a');
    x.tongue(1, 9, 'a');
    Due.due("8: the lowest key from the highest", () -> x.takeOver(0, 1, 0, 1), 1);
    Due.due("8: 00 is spelled as 99", () -> x.imageOf(0, 0), 1);
    Due.due("8: the highest key from the lowest", () -> x.takeOver(0, 1, 1, 0), 1);
    Due.due("8: 99 is spelled as 00", () -> x.imageOf(0, 99), 0);
  }

  private static void halfOfASkill() {
    Locihall x = new Locihall();
    x.image(0, 0);
    x.system(1);
    x.system(1);
    x.learn(1, 11, 0);
    x.tongue(0, 1, 'a');
    for (int skill = 0; skill <= 9; skill++) {
      Due.due("8: taken over with skill " + skill, () -> x.takeOver(0, 1, 0, 0), 1);
      Due.due("8: half of " + skill + ", cut", () -> x.skill(0, 11), skill / 2);
      Due.due("8: that one keeps its skill", () -> x.skill(1, 11), skill);
      x.train(1, 1);
    }
    x.train(0, 5);
    Due.due("9: it has 9 too", () -> x.skill(0, 11), 9);
    x.takeOver(0, 1, 0, 0);
    Due.due("8: half of 9, down from 9", () -> x.skill(0, 11), 4);
  }

  private static void allOthersAsTheyWere() {
    Locihall x = withAllToTakeOver();
    x.learn(0, 10, 1);
    x.learn(0, 12, 1);
    x.train(0, 7);
    x.tongue(0, 1, 'a');
    Due.due("8: one key", () -> x.takeOver(0, 1, 0, 0), 1);
    Due.due("8: image as it was, below", () -> x.imageOf(0, 10), 1);
    Due.due("8: skill as it was, below", () -> x.skill(0, 10), 4);
    Due.due("8: image as it was, above", () -> x.imageOf(0, 12), 1);
    Due.due("8: skill as it was, above", () -> x.skill(0, 12), 3);
    Due.thrown("8: none as it was", () -> x.imageOf(0, 13), Due.NONE);
    Due.due("4: one more has an image", () -> x.learn(0, 10, 1), 3);
  }

  private static void hoursOfTraining() {
    Due.range("9: hours", 1, 200, hours -> Halls.withKeys(1).train(0, hours), Due.ARGUMENT);
    Locihall x = Halls.withKeys(0);
    Due.due("9: 1 hour of no use", () -> x.train(0, 1), 0);
    Due.due("24: passed all the same", () -> x.pass(1), 2);
    Due.due("9: 200 hours of no use", () -> x.train(0, 200), 0);
    Due.due("24: passed all the same", () -> x.pass(1), 203);
  }

  private static void hoursOfUse() {
    Due.due("9: 8 of 8", () -> Halls.withKeys(1).train(0, 8), 8);
    Due.due("9: 9 of 9", () -> Halls.withKeys(1).train(0, 9), 9);
    Due.due("9: 9 of 10", () -> Halls.withKeys(1).train(0, 10), 9);
    Due.due("9: 198 of 200", () -> Halls.withKeys(22).train(0, 200), 198);
    Due.due("9: 198 of 198", () -> Halls.withKeys(22).train(0, 198), 198);
    Due.due("9: 200 of 200", () -> Halls.withKeys(23).train(0, 200), 200);
    Locihall x = Halls.withKeys(100);
    Due.due("9: 199 of all keys", () -> x.train(0, 199), 199);
    Due.due("9: the last key is behind", () -> x.skill(0, 98) * 10 + x.skill(0, 99), 21);
    Due.due("9: it comes next", () -> x.train(0, 1) * 10 + x.skill(0, 99), 12);
  }

  private static void lowestKeyOfTheLowest() {
    Locihall x = new Locihall();
    x.image(0, 0);
    x.system(1);
    x.learn(0, 99, 0);
    x.learn(0, 0, 0);
    x.train(0, 1);
    Due.due("9: of several the lowest key", () -> x.skill(0, 0) * 10 + x.skill(0, 99), 10);
    x.train(0, 1);
    Due.due("9: then the lowest skill", () -> x.skill(0, 0) * 10 + x.skill(0, 99), 11);
    x.train(0, 15);
    Due.due("9: up to 9", () -> x.skill(0, 0) * 10 + x.skill(0, 99), 98);
    Due.due("9: as long as one is below 9", () -> x.train(0, 5), 1);
    x.learn(0, 50, 0);
    Due.due("9: a new one alone", () -> x.train(0, 2), 2);
    Due.due("6: it has them", () -> x.skill(0, 50), 2);
    Due.due("6: a key without an image has none", () -> x.skill(0, 49), 0);
  }

  private static void savedNumbers() {
    Due.range("10: hours", 1, 200, hours -> Halls.withKeys(1).saved(0, hours, 1), Due.ARGUMENT);
    Due.range("10: keys", 1, 9999, keys -> Halls.withKeys(1).saved(0, 1, keys), Due.ARGUMENT);
    Due.thrown("10: no key has an image", () -> Halls.withKeys(0).saved(0, 1, 1), Due.NONE);
  }

  private static void savedTenths() {
    Due.due("10: by 1 hour", () -> Halls.withKeys(1).saved(0, 1, 1), 2f);
    Due.due("10: by 9 hours", () -> Halls.withKeys(1).saved(0, 9, 1), 18f);
    Due.due("10: by 10 hours no more", () -> Halls.withKeys(1).saved(0, 10, 1), 18f);
    Due.due("10: as a float", () -> Halls.withKeys(3).saved(0, 1, 1), 2f / 3f);
    Due.due("10: reckoned from the left", () -> Halls.withKeys(3).saved(0, 5, 7), 23.333334f);
    Due.due("10: all keys, hours and keys to be laid", () -> Halls.withKeys(100).saved(0, 200, 9999), 39996f);
    Locihall x = Halls.withKeys(1);
    x.train(0, 8);
    Due.due("10: one more hour", () -> x.saved(0, 200, 5), 10f);
    x.train(0, 1);
    Due.due("10: nothing more", () -> x.saved(0, 200, 5), 0f);
  }

  private static Locihall withTwoOfOneKey() {
    Locihall x = Halls.withKeys(1);
    x.system(1);
    x.learn(1, 0, 0);
    return x;
  }

  private static void paysBackNumbers() {
    Due.range("11: hours", 0, 200, hours -> withTwoOfOneKey().paysBack(0, 1, hours), Due.ARGUMENT);
    Locihall x = Halls.withKeys(1);
    x.system(1);
    Due.thrown("11: no key there has an image", () -> x.paysBack(0, 1, 0), Due.NONE);
    Due.thrown("11: no key here has an image", () -> x.paysBack(1, 0, 0), Due.NONE);
    Due.thrown("11: none of both", () -> x.paysBack(1, 1, 0), Due.NONE);
    x.learn(1, 99, 0);
    Due.due("11: it has one", () -> x.paysBack(0, 1, 0), false);
  }

  private static void meansAsFractions() {
    Locihall x = Halls.withKeys(100);
    x.image(0, 1);
    x.learn(0, 0, 1);
    x.system(1);
    for (int key = 0; key < 99; key++) {
      x.learn(1, key, key == 98 ? 1 : 0);
    }
    // 3998 by 100 keys, 3958 by 99 keys.
    Due.due("11: fewer by a small part", () -> x.paysBack(0, 1, 0), true);
    Due.due("11: more by a small part", () -> x.paysBack(1, 0, 0), false);
    x.learn(1, 98, 0);
    Due.due("11: 40 there", () -> x.paysBack(0, 1, 0), false);
    Due.due("11: 40 here", () -> x.paysBack(1, 0, 0), true);
    x.learn(0, 0, 0);
    Due.due("11: as many is not fewer", () -> x.paysBack(0, 1, 0), false);
    Due.due("11: as many is not fewer", () -> x.paysBack(1, 0, 0), false);
    // An hour is worth more, the fewer keys there are.
    Due.due("11: behind an hour", () -> x.paysBack(0, 1, 1), true);
    Due.due("11: behind an hour", () -> x.paysBack(1, 0, 1), false);
  }
}
