import java.util.concurrent.Callable;

/** Counts and prints the answers that are not as due. */
final class Due {
  private static int wrong = 0;
  private static int asked = 0;

  private Due() {
  }

  static void same(String call, Object got, Object want) {
    asked++;
    if (!want.equals(got)) {
      wrong++;
      System.out.println(call + " answered " + got + ", due is " + want);
    }
  }

  static void is(String call, boolean holds) {
    same(call, holds, true);
  }

  /** What a call answers, or the simple name of what it throws. */
  static Object answer(Callable<?> call) {
    try {
      return call.call();
    } catch (Throwable thrown) {
      return thrown.getClass().getSimpleName();
    }
  }

  static void due(String call, Callable<?> made, Object want) {
    same(call, answer(made), want);
  }

  static void thrown(String call, Callable<?> made, Class<?> want) {
    same(call, answer(made), want.getSimpleName());
  }

  static void end() {
    System.out.println(asked + " answers asked, " + wrong + " wrong");
    if (wrong != 0) {
      System.exit(1);
    }
  }
}
