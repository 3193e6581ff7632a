import java.util.ArrayList;
import java.util.LinkedHashSet;
import java.util.List;
import java.util.NoSuchElementException;
import java.util.Objects;
import java.util.Set;
import java.util.function.IntFunction;

/** What the tests of the document's sentences have in common; each test says which sentence it is for. */
abstract class Checks {
  interface Build { DoorwayCensus make(); }
  interface Call { Object on(DoorwayCensus x); }
  interface NumberCall { Object on(DoorwayCensus x, int number); }
  /** A test of the promise of that number, or of the document's "Terms" if it is 0. */
  record Told(int promise, String quote, String what) {}

  static final Class<?> INDEX = IndexOutOfBoundsException.class;
  static final Class<?> ARGUMENT = IllegalArgumentException.class;
  static final Class<?> STATE = IllegalStateException.class;
  static final Class<?> UNSUPPORTED = UnsupportedOperationException.class;
  static final Class<?> ELEMENT = NoSuchElementException.class;
  static final Class<?> ARITHMETIC = ArithmeticException.class;
  static final int BIG = Integer.MAX_VALUE;
  static final int SMALL = Integer.MIN_VALUE;

  static final List<Told> told = new ArrayList<>();
  private static final Set<String> failures = new LinkedHashSet<>();
  private static Told current;

  static Set<String> failures() { return failures; }

  static void promise(int number, String quote, String what, Runnable test) {
    current = new Told(number, quote, what);
    told.add(current);
    try {
      test.run();
    } catch (RuntimeException e) {
      tell("threw " + e);
    }
  }

  static void terms(String quote, String what, Runnable test) { promise(0, quote, what, test); }

  static void tell(String fault) {
    String where = "";
    for (StackTraceElement e : new Throwable().getStackTrace()) {
      if (!e.getClassName().equals("Checks")) { where = e.getFileName() + ":" + e.getLineNumber(); break; }
    }
    String place = current.promise == 0 ? "Terms" : "Promise " + current.promise;
    failures.add(place + ", \"" + current.quote + "\", " + current.what + " (" + where + "): " + fault);
  }

  static void due(Object want, Object got) {
    if (!Objects.equals(want, got)) tell("answered " + got + ", due is " + want);
  }

  static Object answer(DoorwayCensus x, Call call) {
    try {
      return call.on(x);
    } catch (RuntimeException e) {
      // The class throws without a text; what the machine throws by itself has one.
      if (e.getMessage() != null) tell("the machine threw " + e);
      return e.getClass();
    }
  }

  /** The checksum of a town that has these numbers, in the document's order. */
  static long sum(long... parts) {
    long sum = 7;
    for (long part : parts) sum = 31 * sum + part;
    return sum;
  }

  /** The call throws just this, and the town is then as it would be without the call. */
  static void refuses(Class<?> want, Build town, Call call) {
    Object got = answer(town.make(), call);
    if (got != want) tell("answered " + got + ", due is " + want);
    Build touched = () -> { DoorwayCensus x = town.make(); answer(x, call); return x; };
    same(town, touched);
    // Where nobody is there yet, some of what could have been changed shows on those who come alone.
    if (Probe.size(town.make()).sightings() == 0) same(() -> peopled(town.make()), () -> peopled(touched.make()));
  }

  private static DoorwayCensus peopled(DoorwayCensus x) {
    for (int s = 0; s < 8; s++) {
      x.sight(s % 4, s, s == 0 ? 0 : 1950, s);
      if (s % 7 != 0) x.setHarm(s, 1, 2);
    }
    return x;
  }

  /** Two towns show the same, also by later calls. */
  static void same(Build one, Build other) {
    Probe.Size size = Probe.size(one.make());
    for (int part = 0; part < size.parts(); part++) {
      List<Object> want = Probe.ask(one.make(), size, part);
      List<Object> got = Probe.ask(other.make(), size, part);
      for (int i = 0; i < want.size(); i++) {
        if (!want.get(i).equals(got.get(i))) {
          tell("the answer " + i + " of part " + part + " is " + got.get(i) + ", due is " + want.get(i));
          return;
        }
      }
    }
  }

  /** Each number from least to most is answered as wanted; the next one on either side, and the farthest, are refused. */
  static void range(int least, int most, Build town, NumberCall call, IntFunction<Object> want) {
    for (int v = least; v <= most; v++) {
      int value = v;
      due(want.apply(value), answer(town.make(), x -> call.on(x, value)));
    }
    for (int v : new int[] {least - 1, most + 1, SMALL, BIG}) refuses(ARGUMENT, town, x -> call.on(x, v));
  }

  /** In a town that has so many, the first and the last one are there; the next one on either side is not. */
  static void numbered(int count, Build town, NumberCall call) {
    for (int v : new int[] {-1, count, count + 1, SMALL, BIG}) refuses(INDEX, town, x -> call.on(x, v));
    for (int v : new int[] {0, count - 1}) {
      Object got = answer(town.make(), x -> call.on(x, v));
      if (got == INDEX) tell("number " + v + " of " + count + " is said not to be there");
    }
  }

  /** The sightings that a call takes: of none, of some, and of all 24. */
  static void sightings(NumberCall call) {
    refuses(INDEX, DoorwayCensus::new, x -> call.on(x, 0));
    numbered(8, Towns::lively, call);
    numbered(24, Towns::full, call);
  }

  static void shelters(NumberCall call) {
    refuses(INDEX, () -> Towns.seen(3), x -> call.on(x, 0));
    numbered(3, Towns::lively, call);
    numbered(5, Towns::full, call);
  }

  static void homes(NumberCall call) {
    refuses(INDEX, () -> Towns.seen(3), x -> call.on(x, 0));
    numbered(3, Towns::lively, call);
    numbered(6, Towns::full, call);
  }

  static void funds(NumberCall call) {
    refuses(INDEX, () -> { DoorwayCensus x = Towns.seen(3); x.addHome(1, 0, 7); return x; }, x -> call.on(x, 0));
    numbered(2, Towns::lively, call);
    numbered(4, Towns::full, call);
  }
}
