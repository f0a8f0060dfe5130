/** Promises 50 to 53: figures. */
public final class FiguresTest {
  public static void main(String[] args) {
    Locihall x = new Locihall();
    Due.thrown("51: none", () -> x.heldShare(), Due.ARITHMETIC);
    Due.thrown("52: none", () -> x.meanHold(), Due.ARITHMETIC);
    x.image(0, 0);
    x.image(1, 0);
    x.system(1);
    x.learn(0, 1, 0);
    x.learn(0, 2, 1);
    x.palace();
    x.palace();
    x.locus(0, 1);
    x.locus(0, 9);
    x.locus(0, 5);
    x.locus(1, 7);
    x.locus(1, 7);
    Due.thrown("51: loci alone", () -> x.heldShare(), Due.ARITHMETIC);
    lay(x, 0, 0, 1, false);
    Due.same("50: tenths", x.tenths(), 40L);
    Due.same("51: none by r", x.heldShare(), 0f);
    Due.same("52: one", x.meanHold(), 10.0);
    lay(x, 0, 1, 1, false);
    Due.same("51: by r", x.heldShare(), 0.5f);
    Due.same("52: as neighbours", x.meanHold(), (7.0 + 87.0) / 2.0);
    lay(x, 1, 1, 2, true);
    Due.same("51: a false one", x.heldShare(), 1f / 3f);
    Due.same("52: a false one", x.meanHold(), (7.0 + 87.0 + 70.0) / 3.0);
    x.pass(7);
    double sum = (double) (10f * 20f / 27f - 3f) + (double) (90f * 20f / 27f - 3f) + (double) (70f * 20f / 27f);
    Due.same("52: as doubles of floats", x.meanHold(), sum / 3.0);
    x.pass(100);
    lay(x, 0, 1, 2, false);
    x.wipe(0, 1);
    lay(x, 1, 1, 2, false);
    Due.same("51: one of three", x.heldShare(), 1f / 3f);
    Due.same("50: tenths", x.tenths(), 200L);
    x.wipe(0, 0);
    Due.same("51: one of two", x.heldShare(), 1f / 2f);
    x.wipe(0, 1);
    Due.same("51: all", x.heldShare(), 1f);
    ghosts();
    Due.is("53: isConsistent", x.isConsistent());
    Due.is("53: of a new one", new Locihall().isConsistent());
    Due.end();
  }

  private static void ghosts() {
    Locihall x = new Locihall();
    x.image(0, 9);
    x.image(1, 0);
    x.system(1);
    x.learn(0, 1, 0);
    x.learn(0, 2, 1);
    x.palace();
    x.locus(0, 1);
    lay(x, 0, 0, 1, false);
    lay(x, 0, 0, 2, false);
    Due.same("51: a ghost is no r", x.heldShare(), 0f);
    Due.same("52: the topmost one", x.meanHold(), 10.0);
    x.wipe(0, 0);
    Due.same("51: r again", x.heldShare(), 1f);
    x.groups(0, 2);
    x.pass(999);
    Due.same("51: an inferred one is no r", x.heldShare(), 0f);
    Due.is("53: isConsistent", x.isConsistent());
  }

  private static void lay(Locihall x, int palace, int at, int key, boolean isSuggested) {
    x.key(key);
    x.lay(palace, at, 0, isSuggested);
  }
}
