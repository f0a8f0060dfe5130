import java.util.ArrayList;
import java.util.List;
import java.util.NoSuchElementException;
import java.util.concurrent.Callable;

/** Counts and prints the answers that are not as due. */
final class Due {
  static final Class<?> ARGUMENT = IllegalArgumentException.class;
  static final Class<?> STATE = IllegalStateException.class;
  static final Class<?> BOUNDS = IndexOutOfBoundsException.class;
  static final Class<?> NONE = NoSuchElementException.class;
  static final Class<?> CANNOT = UnsupportedOperationException.class;
  static final Class<?> ARITHMETIC = ArithmeticException.class;

  private static int wrong = 0;
  private static int asked = 0;

  /** A call on a hall of its own. */
  interface Made {
    Object on(Locihall x) throws Exception;
  }

  /** A call with a number that may be out of range, on a new hall each time. */
  interface Numbered {
    Object with(int number) throws Exception;
  }

  private Due() {
  }

  static void same(String call, Object got, Object want) {
    asked++;
    if (!want.equals(got)) {
      wrong++;
      System.out.println(call + " answered " + got + ", due is " + want);
    }
  }

  static void is(String call, boolean holds) {
    same(call, holds, true);
  }

  /** What a call answers, or the simple name of what it throws. */
  static Object answer(Callable<?> call) {
    try {
      return call.call();
    } catch (Throwable thrown) {
      return thrown.getClass().getSimpleName();
    }
  }

  static void due(String call, Callable<?> made, Object want) {
    same(call, answer(made), want);
  }

  static void thrown(String call, Callable<?> made, Class<?> want) {
    same(call, answer(made), want.getSimpleName());
  }

  /** The numbers from low to high are taken, low and high by themselves; those just outside, and far away, are refused. */
  static void range(String what, int low, int high, Numbered call, Class<?> refusal) {
    for (int number : low <= high ? new int[] {low, high} : new int[0]) {
      Object got = answer(() -> call.with(number));
      is(what + " " + number + " is taken, not " + got, !(got instanceof String));
    }
    for (int number : outside(low, high)) {
      thrown(what + " " + number, () -> call.with(number), refusal);
    }
  }

  private static List<Integer> outside(int low, int high) {
    List<Integer> numbers = new ArrayList<>();
    if (low > Integer.MIN_VALUE) {
      numbers.add(Integer.MIN_VALUE);
      numbers.add(low - 1);
    }
    if (high < Integer.MAX_VALUE) {
      numbers.add(high + 1);
      numbers.add(Integer.MAX_VALUE);
    }
    return numbers;
  }

  static void end() {
    System.out.println(asked + " answers asked, " + wrong + " wrong");
    if (wrong != 0) {
      System.exit(1);
    }
  }
}
