import java.lang.reflect.Method;
import java.lang.reflect.Modifier;
import java.util.HashSet;
import java.util.List;
import java.util.Set;
import java.util.TreeSet;
import java.util.function.Function;

/** Every call that the document refuses throws what it lists first, twice as well as once, and changes nothing. */
public final class RefusalsTest {
  /** Two reasons that can never hold at once. */
  private static final Set<String> NEVER_BOTH = Set.of(
      // Answers are missing yet only as long as a contest is open.
      "close NoSuchElementException IllegalStateException",
      // There cannot be both no facts and more than four.
      "bestSum IllegalStateException NoSuchElementException",
      "bestAt IllegalStateException NoSuchElementException");

  public static void main(String[] args) throws Exception {
    for (Refusals.Refusal refusal : Refusals.all()) {
      checkThrown(refusal);
      checkNothingChanged(refusal, Probe::asked);
      checkNothingChanged(refusal, Probe::made);
      checkNothingChanged(refusal, Probe::gone);
    }
    checkBreadth();
    checkProbe();
    Due.end();
  }

  private static void checkThrown(Refusals.Refusal refusal) {
    Locihall x = refusal.state().get();
    Due.thrown(refusal.toString(), () -> refusal.call().on(x), refusal.first());
    Due.thrown(refusal + ", again", () -> refusal.call().on(x), refusal.first());
    Due.is(refusal + ", consistent", x.isConsistent());
  }

  private static void checkNothingChanged(Refusals.Refusal refusal, Function<Locihall, List<Object>> probe) {
    Locihall x = refusal.state().get();
    Due.answer(() -> refusal.call().on(x));
    Locihall twin = refusal.state().get();
    Due.same(refusal + ", then", probe.apply(x), probe.apply(twin));
  }

  /** For each method each exception has a row, and each two of them that can hold at once. */
  private static void checkBreadth() {
    Set<String> rows = new HashSet<>();
    for (Refusals.Refusal refusal : Refusals.all()) {
      String also = refusal.also() == null ? "" : " " + refusal.also().getSimpleName();
      rows.add(refusal.method() + " " + refusal.first().getSimpleName() + also);
    }
    TreeSet<String> missing = new TreeSet<>();
    for (Method method : Locihall.class.getDeclaredMethods()) {
      if (Modifier.isPublic(method.getModifiers())) {
        addMissing(method, rows, missing);
      }
    }
    Due.same("refusals without a row", missing, new TreeSet<String>());
  }

  private static void addMissing(Method method, Set<String> rows, Set<String> missing) {
    Class<?>[] listed = method.getExceptionTypes();
    for (int first = 0; first < listed.length; first++) {
      String row = method.getName() + " " + listed[first].getSimpleName();
      if (!rows.contains(row)) {
        missing.add(row);
      }
      for (int also = first + 1; also < listed.length; also++) {
        String both = row + " " + listed[also].getSimpleName();
        if (!rows.contains(both) && !NEVER_BOTH.contains(both)) {
          missing.add(both);
        }
      }
    }
  }

  /** The probe itself is worth something only if calls that do change a hall show in it. */
  private static void checkProbe() {
    Due.Made[] changes = {
        x -> x.image(0, 0), x -> x.system(1), x -> x.learn(0, 10, 2), x -> x.tongue(0, 5, 'q'), x -> x.tongue(1, 2, 'x'),
        x -> x.takeOver(1, 0, 1, 0), x -> x.train(0, 1), x -> x.palace(), x -> x.locus(2, 1), x -> x.cue(0, 0, false),
        x -> x.key(10), x -> x.lay(1, 0, 0, false), x -> x.walk(0), x -> x.groups(0, 0), x -> x.wipe(0, 0),
        x -> x.pass(1), x -> x.sleep(6), x -> x.age(20), x -> x.book(2002, 1, 'z'), x -> x.standard(2002, 1),
        x -> x.answer(10, 5), x -> x.answerAll(0), x -> x.appeal(1), x -> x.speech(0, 1), x -> x.speak(1),
        x -> x.point(), x -> x.interrupt(), x -> x.fact(1), x -> x.review(0)};
    for (int change = 0; change < changes.length; change++) {
      Locihall x = Refusals.busy();
      Locihall y = Refusals.busy();
      Locihall z = Refusals.busy();
      int number = change;
      Due.is("change " + change + " is made", !(Due.answer(() -> changes[number].on(x)) instanceof String));
      Due.answer(() -> changes[number].on(y));
      Due.answer(() -> changes[number].on(z));
      boolean isSeen = !Probe.asked(x).equals(Probe.asked(Refusals.busy()))
          || !Probe.made(y).equals(Probe.made(Refusals.busy()))
          || !Probe.gone(z).equals(Probe.gone(Refusals.busy()));
      Due.is("change " + change + " is seen", isSeen);
    }
  }
}
