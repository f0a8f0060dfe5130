/** The example of README.md: behind each printed call stands what it answers. */
public final class Example {
  public static void main(String[] args) {
    Locihall hall = new Locihall();

    // Images are put into the table of a system, by key; hours of training go to the keys with the lowest skill.
    int dragon = hall.image(0, 9);                               // kind 0, vividness 9
    int violin = hall.image(1, 4);                               // kind 1, vividness 4
    int pairs = hall.system(2);                                  // lays up to two keys at a locus
    hall.learn(pairs, 10, dragon);
    System.out.println(hall.learn(pairs, 21, violin));           // 2
    System.out.println(hall.train(pairs, 3));                    // 3
    System.out.println(hall.skill(pairs, 10));                   // 2
    System.out.println(hall.saved(pairs, 4, 100));               // 400.0

    // Another system takes over what is spelled alike: its a, b, c are the pairs' 0, 1, 2.
    int singles = hall.system(1);
    for (int digit = 0; digit < 3; digit++) {
      hall.tongue(0, digit + 5, (char) ('a' + digit));           // tongue 0 has 5 = a, 6 = b, 7 = c
      hall.tongue(1, digit, (char) ('a' + digit));               // tongue 1 has 0 = a, 1 = b, 2 = c
    }
    System.out.println(hall.takeOver(singles, pairs, 0, 1));     // 2
    System.out.println(hall.imageOf(singles, 65));               // 0
    System.out.println(hall.skill(singles, 65));                 // 1
    System.out.println(hall.paysBack(singles, pairs, 0));        // true

    // Keys are laid at a locus, fade by hours, and hold longer by walks, by sleep and by cues.
    int house = hall.palace();
    hall.locus(house, 5);
    System.out.println(hall.locus(house, 2));                    // 2
    hall.key(10);
    hall.key(21);
    System.out.println(hall.lay(house, 0, pairs, false));        // 48
    hall.key(21);
    System.out.println(hall.lay(house, 1, pairs, false));        // 30
    System.out.println(hall.groups(house, 2));                   // 1
    System.out.println(hall.hold(house, 0, 0));                  // 105.0
    System.out.println(hall.pass(80));                           // 83
    System.out.println(hall.hold(house, 0, 0));                  // 21.0
    System.out.println(hall.hold(house, 1, 0));                  // 8.0
    System.out.println(hall.recall(house, 0));                   // r
    System.out.println(hall.recalled(house, 0, 1));              // 21
    System.out.println(hall.recall(house, 1));                   // i
    System.out.println(hall.recalled(house, 1, 0));              // 21
    System.out.println(hall.walk(house));                        // 1
    System.out.println(hall.sleep(8));                           // 2

    // A contest draws keys by a seed and lays them; answers are given by hand or by recall.
    hall.book(1997, 2, 'h');
    hall.standard(2000, 4);
    System.out.println(hall.contest(2003, 7, house, pairs, 4));  // 84
    System.out.println(hall.drawn(0));                           // 10
    System.out.println(hall.answer(1, 9));                       // 1
    System.out.println(hall.appeal(0));                          // true
    System.out.println(hall.answer(-1, 0));                      // 2
    System.out.println(hall.answerAll(5));                       // 2
    System.out.println(hall.close());                            // 3
    System.out.println(hall.points());                           // 750
    System.out.println(hall.record(2026));                       // 3
    System.out.println(hall.isSuspect());                        // true

    // A speech is told point by point, a digression goes on within it.
    int toast = hall.speech(house, 2);
    int joke = hall.speech(house, 1);
    System.out.println(hall.speak(toast));                       // 1
    System.out.println(hall.point());                            // 0
    System.out.println(hall.speak(joke));                        // 2
    System.out.println(hall.point());                            // 0
    System.out.println(hall.interrupt());                        // 1
    hall.pass(4);
    System.out.println(hall.resume());                           // 0

    // Facts are reviewed before they are forgotten; the best reviews are planned by hours.
    int capital = hall.fact(4);
    hall.pass(16);
    System.out.println(hall.isDue(capital));                     // true
    System.out.println(hall.review(capital));                    // true
    System.out.println(hall.strength(capital));                  // 2
    System.out.println(hall.bestSum(3));                         // 16
    System.out.println(hall.bestAt(3, 0));                       // 0
    System.out.println(hall.leeches());                          // 0

    // Figures of all that was laid.
    System.out.println(hall.tenths());                           // 162
    System.out.println(hall.heldShare());                        // 1.0
    System.out.println(hall.meanHold());                         // 39.5
    System.out.println(hall.isConsistent());                     // true
  }
}
