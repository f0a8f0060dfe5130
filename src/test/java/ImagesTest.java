/** Promises 1 to 11: images, systems, tongues. */
public final class ImagesTest {
  public static void main(String[] args) {
    aNewObject();
    image();
    system();
    learnAndImageOf();
    tongue();
    takeOver();
    train();
    saved();
    paysBack();
    Due.end();
  }

  private static void aNewObject() {
    Locihall x = new Locihall();
    Due.thrown("1: imageOf", () -> x.imageOf(0, 0), Due.BOUNDS);
    Due.thrown("1: locus", () -> x.locus(0, 1), Due.BOUNDS);
    Due.thrown("1: speak", () -> x.speak(0), Due.BOUNDS);
    Due.thrown("1: strength", () -> x.strength(0), Due.BOUNDS);
    Due.same("1: tenths", x.tenths(), 0L);
    Due.same("1: leeches", x.leeches(), 0);
    Due.same("1: age", x.age(0), 20);
    Due.same("1: hour", x.pass(1), 1);
    Due.is("1: isConsistent", x.isConsistent());
  }

  private static void image() {
    Locihall x = new Locihall();
    Due.thrown("2: kind 5", () -> x.image(5, 0), Due.ARGUMENT);
    Due.thrown("2: kind -1", () -> x.image(-1, 0), Due.ARGUMENT);
    Due.thrown("2: vividness 10", () -> x.image(0, 10), Due.ARGUMENT);
    Due.thrown("2: vividness -1", () -> x.image(0, -1), Due.ARGUMENT);
    for (int image = 0; image < 30; image++) {
      Due.same("2: image", x.image(image % 5, image % 10), image);
    }
    Due.thrown("2: the 31st", () -> x.image(4, 9), Due.STATE);
    Due.thrown("2: the 31st, out of range", () -> x.image(4, 10), Due.ARGUMENT);
  }

  private static void system() {
    Locihall x = new Locihall();
    Due.thrown("3: 0 keys", () -> x.system(0), Due.ARGUMENT);
    Due.thrown("3: 4 keys", () -> x.system(4), Due.ARGUMENT);
    for (int system = 0; system < 4; system++) {
      Due.same("3: system", x.system(1 + system % 3), system);
    }
    Due.thrown("3: the fifth", () -> x.system(3), Due.STATE);
    Due.thrown("3: the fifth, out of range", () -> x.system(0), Due.ARGUMENT);
  }

  private static void learnAndImageOf() {
    Locihall x = new Locihall();
    x.image(0, 0);
    x.image(1, 9);
    x.system(1);
    Due.thrown("4: no such system", () -> x.learn(1, 0, 0), Due.BOUNDS);
    Due.thrown("4: no such image", () -> x.learn(0, 0, 2), Due.BOUNDS);
    Due.thrown("4: image -1", () -> x.learn(0, 0, -1), Due.BOUNDS);
    Due.thrown("4: no such image or key", () -> x.learn(0, 100, 2), Due.BOUNDS);
    Due.thrown("4: key 100", () -> x.learn(0, 100, 0), Due.ARGUMENT);
    Due.thrown("4: key -1", () -> x.learn(0, -1, 0), Due.ARGUMENT);
    Due.thrown("5: none", () -> x.imageOf(0, 0), Due.NONE);
    Due.same("4: learn", x.learn(0, 0, 0), 1);
    Due.same("4: learn", x.learn(0, 99, 1), 2);
    x.train(0, 3);
    Due.same("6: skill", x.skill(0, 0), 2);
    Due.same("6: skill", x.skill(0, 99), 1);
    Due.same("4: learnt anew", x.learn(0, 0, 1), 2);
    Due.same("4: skill is 0 then", x.skill(0, 0), 0);
    Due.same("5: imageOf", x.imageOf(0, 0), 1);
    Due.same("5: imageOf", x.imageOf(0, 99), 1);
    Due.same("6: without an image", x.skill(0, 50), 0);
    Due.thrown("5: system", () -> x.imageOf(1, 100), Due.BOUNDS);
    Due.thrown("5: key", () -> x.imageOf(0, 100), Due.ARGUMENT);
    Due.thrown("5: none", () -> x.imageOf(0, 1), Due.NONE);
    Due.thrown("6: system", () -> x.skill(-1, 100), Due.BOUNDS);
    Due.thrown("6: key", () -> x.skill(0, -1), Due.ARGUMENT);
  }

  private static void tongue() {
    Locihall x = new Locihall();
    Due.thrown("7: tongue", () -> x.tongue(3, 0, 'a'), Due.ARGUMENT);
    Due.thrown("7: tongue", () -> x.tongue(-1, 0, 'a'), Due.ARGUMENT);
    Due.thrown("7: digit", () -> x.tongue(0, 10, 'a'), Due.ARGUMENT);
    Due.thrown("7: digit", () -> x.tongue(0, -1, 'a'), Due.ARGUMENT);
    Due.thrown("7: letter", () -> x.tongue(0, 0, 'A'), Due.ARGUMENT);
    Due.thrown("7: letter", () -> x.tongue(0, 0, '`'), Due.ARGUMENT);
    Due.thrown("7: letter", () -> x.tongue(0, 0, '{'), Due.ARGUMENT);
    Due.thrown("7: letter", () -> x.tongue(0, 0, (char) 0), Due.ARGUMENT);
    Due.same("7: first", x.tongue(0, 0, 'a'), 1);
    Due.same("7: again", x.tongue(0, 0, 'a'), 1);
    Due.thrown("7: taken", () -> x.tongue(0, 1, 'a'), Due.CANNOT);
    Due.same("7: another letter", x.tongue(0, 0, 'z'), 1);
    Due.same("7: free again", x.tongue(0, 9, 'a'), 2);
    Due.same("7: another tongue", x.tongue(2, 5, 'a'), 1);
  }

  private static void takeOver() {
    Locihall x = new Locihall();
    x.image(0, 0);
    x.image(1, 9);
    x.system(1);
    x.system(1);
    x.learn(0, 12, 1);
    x.learn(0, 70, 1);
    x.learn(1, 34, 0);
    x.learn(1, 33, 1);
    x.learn(1, 35, 1);
    x.train(1, 9);
    Due.same("8: without letters", x.takeOver(0, 1, 0, 1), 0);
    x.tongue(0, 1, 'a');
    x.tongue(0, 2, 'b');
    x.tongue(0, 7, 'x');
    x.tongue(1, 3, 'b');
    x.tongue(1, 4, 'a');
    x.tongue(1, 5, 'q');
    // 34 is "ba", as is 21; 33 is "bb", as is 22; 35 is "bq", and nothing is that in the first tongue.
    Due.same("8: skill there", x.skill(1, 34), 3);
    Due.same("8: takeOver", x.takeOver(0, 1, 0, 1), 2);
    Due.same("8: image", x.imageOf(0, 21), 0);
    Due.same("8: image", x.imageOf(0, 22), 1);
    Due.same("8: half, cut", x.skill(0, 21), 1);
    Due.thrown("8: not this one", () -> x.imageOf(0, 35), Due.NONE);
    Due.same("8: as it was", x.imageOf(0, 12), 1);
    Due.same("8: as it was", x.imageOf(0, 70), 1);
    x.train(0, 30);
    x.takeOver(0, 1, 0, 1);
    Due.same("8: less skill than before", x.skill(0, 22), 1);
    Due.same("8: as it was", x.skill(0, 12), 8);
    x.train(1, 5);
    x.takeOver(0, 1, 0, 1);
    // Now 33 and 34 have 5 there, 35 has 4.
    Due.same("8: half of 5", x.skill(0, 22), 2);
    Due.same("8: half of 5", x.skill(0, 21), 2);
    x.tongue(2, 3, 'b');
    Due.same("8: a digit without a letter is no letter", x.takeOver(0, 1, 0, 2), 1);
    Due.same("8: the same tongue twice", x.takeOver(0, 1, 1, 1), 3);
    Due.thrown("8: system", () -> x.takeOver(2, 1, 3, 0), Due.BOUNDS);
    Due.thrown("8: other system", () -> x.takeOver(0, -1, 0, 0), Due.BOUNDS);
    Due.thrown("8: tongue", () -> x.takeOver(0, 1, 3, 0), Due.ARGUMENT);
    Due.thrown("8: other tongue", () -> x.takeOver(0, 1, 0, -1), Due.ARGUMENT);
    Due.thrown("8: the same", () -> x.takeOver(1, 1, 0, 1), Due.ARGUMENT);
  }

  private static void train() {
    Locihall x = new Locihall();
    x.image(0, 0);
    x.system(1);
    Due.same("9: nothing to train", x.train(0, 5), 0);
    Due.same("9: the hours pass", x.pass(1), 6);
    x.learn(0, 8, 0);
    x.learn(0, 3, 0);
    Due.same("9: train", x.train(0, 3), 3);
    Due.same("9: lowest key first", x.skill(0, 3), 2);
    Due.same("9: then the other", x.skill(0, 8), 1);
    x.learn(0, 5, 0);
    x.train(0, 2);
    Due.same("9: lowest skill first", x.skill(0, 5), 2);
    Due.same("9: not this one", x.skill(0, 8), 1);
    Due.same("9: up to 9", x.train(0, 200), 22);
    Due.same("9: at most 9", x.skill(0, 8), 9);
    Due.same("9: no more use", x.train(0, 1), 0);
    Due.same("9: hours pass all the same", x.pass(1), 213);
    Due.thrown("9: system", () -> x.train(1, 0), Due.BOUNDS);
    Due.thrown("9: 0", () -> x.train(0, 0), Due.ARGUMENT);
    Due.thrown("9: 201", () -> x.train(0, 201), Due.ARGUMENT);
    Due.same("9: nothing passed", x.pass(1), 214);
  }

  private static void saved() {
    Locihall x = new Locihall();
    x.image(0, 0);
    x.system(1);
    Due.thrown("10: system", () -> x.saved(1, 0, 0), Due.BOUNDS);
    Due.thrown("10: hours", () -> x.saved(0, 0, 1), Due.ARGUMENT);
    Due.thrown("10: hours", () -> x.saved(0, 201, 1), Due.ARGUMENT);
    Due.thrown("10: keys", () -> x.saved(0, 1, 0), Due.ARGUMENT);
    Due.thrown("10: keys", () -> x.saved(0, 1, 10000), Due.ARGUMENT);
    Due.thrown("10: none", () -> x.saved(0, 1, 1), Due.NONE);
    x.learn(0, 1, 0);
    x.learn(0, 2, 0);
    x.learn(0, 3, 0);
    Due.same("10: saved", x.saved(0, 5, 100), 1000f / 3f);
    Due.same("10: at most", x.saved(0, 200, 9999), 54f * 9999f / 3f);
    Due.same("10: changes nothing", x.skill(0, 1), 0);
    Due.same("10: nothing passes", x.pass(1), 1);
    x.train(0, 27);
    Due.same("10: nothing to save", x.saved(0, 200, 9999), 0f);
  }

  private static void paysBack() {
    Locihall x = new Locihall();
    x.image(0, 0);
    x.image(0, 1);
    x.system(1);
    x.system(1);
    Due.thrown("11: system", () -> x.paysBack(0, 2, -1), Due.BOUNDS);
    Due.thrown("11: system", () -> x.paysBack(2, 0, -1), Due.BOUNDS);
    Due.thrown("11: hours", () -> x.paysBack(0, 1, -1), Due.ARGUMENT);
    Due.thrown("11: hours", () -> x.paysBack(0, 1, 201), Due.ARGUMENT);
    x.learn(0, 0, 0);
    Due.thrown("11: none there", () -> x.paysBack(0, 1, 0), Due.NONE);
    Due.thrown("11: none here", () -> x.paysBack(1, 0, 0), Due.NONE);
    x.learn(0, 1, 1);
    x.learn(1, 0, 0);
    // The means are 39 and 40; behind an hour 38 and 38, behind two 37 and 36.
    Due.same("11: more there", x.paysBack(0, 1, 0), false);
    Due.same("11: fewer there", x.paysBack(1, 0, 0), true);
    Due.same("11: alike", x.paysBack(0, 1, 1), false);
    Due.same("11: alike", x.paysBack(1, 0, 1), false);
    Due.same("11: trained", x.paysBack(0, 1, 2), true);
    // Behind 200 hours 21 and 22.
    Due.same("11: both are at their best", x.paysBack(0, 1, 200), false);
    Due.same("11: itself", x.paysBack(0, 0, 200), false);
    Due.same("11: changes nothing", x.skill(0, 0) + x.skill(1, 0), 0);
    Due.same("11: nothing passes", x.pass(1), 1);
  }
}
