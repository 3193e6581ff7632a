/** Promises 28 to 35: papers, offices, visits, what is stored and what a sweep takes. */
final class PaperSentences extends Checks {
  static void run() {
    setPaper(); setPaperRefused(); setOffice(); visit(); visitRefused(); getPapers(); leastVisits(); leastVisitsRefused();
    earliestDay(); earliestDayFar(); earliestDayRefused(); store(); sweep(); sweepOfWhom();
  }

  /** One sighting; the papers 0 to 5, each needing the one before, at the offices 0 and 1 in turn. */
  private static DoorwayCensus ladder() {
    DoorwayCensus x = Towns.seen(1);
    for (int p = 1; p < 6; p++) x.setPaper(p, p % 2, 1 << p - 1);
    return x;
  }

  private static void setPaper() {
    promise(28, "Tells of a paper where it is got and what it needs.", "instead of what was told before", () -> {
      DoorwayCensus x = Towns.seen(1);
      x.setPaper(0, 2, 62);
      x.setPaper(0, 1, 0);
      due(62, x.visit(0, 0));
      x.passNights(1);
      due(0, x.visit(0, 2));
      x.passNights(1);
      due(1, x.visit(0, 1));
    });
    promise(28, "`paper`: 0 to 5", "the ends and the next ones", () ->
        range(0, 5, Towns::lively, (x, v) -> x.setPaper(v, 2, 0), v -> v == 1 ? 1 : v == 2 ? 2 : 0));
    promise(28, "`paper`: 0 to 5", "each is a paper of its own", () -> {
      for (int p = 0; p < 6; p++) {
        DoorwayCensus x = Towns.seen(1);
        x.setPaper(p, 2, 0);
        due(63 - (1 << p), x.visit(0, 0));
      }
    });
    promise(28, "`office`: 0 to 2", "the ends and the next ones", () ->
        range(0, 2, Towns::lively, (x, v) -> { x.setPaper(5, v, 0); return x.setPaper(5, 0, 0); }, v -> v));
    promise(28, "`office`: 0 to 2", "each is an office of its own", () -> {
      for (int at = 0; at < 3; at++) for (int where = 0; where < 3; where++) {
        DoorwayCensus x = Towns.seen(1);
        for (int p = 0; p < 6; p++) x.setPaper(p, at, 0);
        due(at == where ? 63 : 0, x.visit(0, where));
      }
    });
    promise(28, "`needed`: the papers, as bits", "each set without itself is taken, each with itself is not", () -> {
      for (int p = 0; p < 6; p++) for (int needed = 0; needed < 64; needed++) {
        int paper = p;
        int some = needed;
        due((needed >> p & 1) == 0 ? 0 : ARGUMENT, answer(Towns.seen(1), x -> x.setPaper(paper, 1, some)));
      }
    });
    promise(28, "`needed`: the papers, as bits", "each set is needed whole", () -> {
      for (int needed = 0; needed < 32; needed++) {
        DoorwayCensus x = Towns.seen(1);
        x.setPaper(5, 1, needed);
        for (int p = 0; p < 5; p++) x.setPaper(p, 0, p == 0 ? 0 : 32);
        x.visit(0, 0);
        x.passNights(1);
        due(needed < 2 ? 32 : 0, x.visit(0, 1));
      }
    });
    promise(28, "Returns the office before.", "0 at first, then each", () -> {
      DoorwayCensus x = new DoorwayCensus();
      for (int p = 0; p < 6; p++) {
        due(0, x.setPaper(p, 2, 0));
        due(2, x.setPaper(p, 1, 0));
        due(1, x.setPaper(p, 0, 0));
        due(0, x.setPaper(p, 0, 0));
      }
    });
  }

  private static void setPaperRefused() {
    String all = "Throws `IllegalArgumentException` if there is no such paper, or office, or it would need itself, or one "
        + "that does not exist";
    promise(28, all, "no such paper, or office", () -> {
      int[][] bad = {{-1, 0, 0}, {6, 2, 0}, {SMALL, 0, 0}, {BIG, 0, 0}, {0, -1, 0}, {5, 3, 0}, {0, SMALL, 0}, {0, BIG, 0},
          {32, 0, 0}, {-1, -1, 0}};
      for (int[] b : bad) refuses(ARGUMENT, Towns::lively, x -> x.setPaper(b[0], b[1], b[2]));
    });
    promise(28, all, "it would need itself", () -> {
      for (int p = 0; p < 6; p++) {
        int paper = p;
        refuses(ARGUMENT, Towns::lively, x -> x.setPaper(paper, 0, 1 << paper));
        refuses(ARGUMENT, Towns::lively, x -> x.setPaper(paper, 0, 63));
      }
    });
    promise(28, all, "one that does not exist", () -> {
      for (int needed : new int[] {64, 65, 66, 128, -1, -2, -64, SMALL, BIG, BIG - 1}) {
        refuses(ARGUMENT, Towns::lively, x -> x.setPaper(0, 0, needed));
        refuses(ARGUMENT, Towns::lively, x -> x.setPaper(5, 2, needed));
      }
    });
    promise(28, all, "by others it may: two that need one another", () -> {
      DoorwayCensus x = Towns.seen(1);
      due(0, x.setPaper(0, 0, 2));
      due(0, x.setPaper(1, 0, 1));
      due(60, x.visit(0, 0));
      due(-1, x.leastVisits(0, 0));
    });
  }

  private static void setOffice() {
    promise(29, "Tells on which days of the week an office is open.", "each set of days, over two weeks", () -> {
      for (int days = 0; days < 128; days++) {
        DoorwayCensus x = Towns.seen(1);
        x.setOffice(2, days);
        for (int day = 0; day < 15; day++) {
          due((days >> day % 7 & 1) != 0 ? 0 : UNSUPPORTED, answer(x, y -> y.visit(0, 2)));
          x.passNights(1);
        }
      }
    });
    promise(29, "Tells on which days of the week an office is open.", "that one alone", () -> {
      DoorwayCensus x = Towns.seen(3);
      x.setOffice(1, 0);
      due(63, x.visit(0, 0));
      due(UNSUPPORTED, answer(x, y -> y.visit(1, 1)));
      due(0, x.visit(2, 2));
    });
    promise(29, "`office`: 0 to 2", "the ends and the next ones", () ->
        range(0, 2, Towns::lively, (x, v) -> x.setOffice(v, 1), v -> v == 1 ? 85 : 127));
    promise(29, "`days`: 0 to 127, as bits", "the ends and the next ones", () ->
        range(0, 127, Towns::lively, (x, v) -> { x.setOffice(0, v); return x.setOffice(0, 0); }, v -> v));
    promise(29, "Returns those before.", "all at first, then each", () -> {
      DoorwayCensus x = new DoorwayCensus();
      for (int o = 0; o < 3; o++) {
        int before = 127;
        for (int days = 0; days < 128; days++) { due(before, x.setOffice(o, days)); before = days; }
      }
    });
    promise(29, "Throws `IllegalArgumentException` if a number is out of range", "each alone, the other at its ends", () -> {
      int[][] bad = {{-1, 0}, {-1, 127}, {3, 0}, {3, 127}, {0, -1}, {2, -1}, {0, 128}, {2, 128}};
      for (int[] b : bad) refuses(ARGUMENT, Towns::lively, x -> x.setOffice(b[0], b[1]));
    });
  }

  private static void visit() {
    promise(30, "Lets a person visit an office.", "one a day, the next day again", () -> {
      DoorwayCensus x = ladder();
      int[] want = {1, 2, 4, 8, 16, 32};
      for (int p = 0; p < 6; p++) {
        due(want[p], x.visit(0, p % 2));
        due(UNSUPPORTED, answer(x, y -> y.visit(0, 0)));
        x.passNights(1);
      }
    });
    promise(30, "`sighting`: a sighting of the person", "the first, the last and the next ones", () ->
        sightings((x, v) -> x.visit(v, 2)));
    promise(30, "`sighting`: a sighting of the person", "any of them", () -> {
      for (int s = 0; s <= 20; s++) {
        DoorwayCensus x = Towns.full();
        due(63, x.visit(s, 0));
        due(63, x.getPapers(20 - s));
      }
    });
    promise(30, "`office`: 0 to 2", "the ends and the next ones", () ->
        range(0, 2, Towns::lively, (x, v) -> x.visit(7, v), v -> v == 0 ? 49 : 0));
    promise(30, "Returns the papers that come, as bits.", "all, some, none", () -> {
      DoorwayCensus x = Towns.seen(1);
      x.setPaper(0, 1, 0);
      due(62, x.visit(0, 0));
      x.passNights(1);
      due(0, x.visit(0, 2));
      x.passNights(1);
      due(1, x.visit(0, 1));
      x.passNights(1);
      due(0, x.visit(0, 0));
    });
    promise(30, "Returns the papers that come, as bits.", "a chain on one visit, in any order of the numbers", () -> {
      DoorwayCensus x = Towns.seen(1);
      for (int p = 0; p < 5; p++) x.setPaper(p, 0, 1 << p + 1);
      due(63, x.visit(0, 0));
      DoorwayCensus y = Towns.seen(1);
      for (int p = 1; p < 6; p++) y.setPaper(p, 0, 1 << p - 1);
      due(63, y.visit(0, 0));
      DoorwayCensus z = Towns.seen(1);
      z.setPaper(0, 0, 2); z.setPaper(1, 0, 4); z.setPaper(2, 1, 0);
      due(56, z.visit(0, 0));
    });
    promise(30, "Returns the papers that come, as bits.", "by those that other sightings of the person got", () -> {
      DoorwayCensus x = Towns.seen(2);
      for (int p = 1; p < 6; p++) x.setPaper(p, 1, 1);
      x.visit(0, 0);
      due(0, x.visit(1, 2));
      x.passNights(1);
      x.merge(0, 1);
      due(62, x.visit(1, 1));
      x.undoMerge();
      due(1, x.getPapers(0));
      due(62, x.getPapers(1));
    });
  }

  private static void visitRefused() {
    promise(30, "Throws `IndexOutOfBoundsException`", "no such sighting", () -> {
      refuses(INDEX, DoorwayCensus::new, x -> x.visit(0, 0));
      refuses(INDEX, Towns::lively, x -> x.visit(8, 2));
      refuses(INDEX, Towns::full, x -> x.visit(24, 0));
    });
    promise(30, "Throws `IndexOutOfBoundsException`", "first, with a wrong office too, and a closed one", () -> {
      refuses(INDEX, Towns::lively, x -> x.visit(8, 3));
      refuses(INDEX, Towns::lively, x -> x.visit(-1, -1));
      refuses(INDEX, () -> { DoorwayCensus x = Towns.lively(); x.setOffice(0, 0); return x; }, x -> x.visit(8, 0));
    });
    promise(30, "Throws `IllegalArgumentException` if a number is out of range", "next to the ends", () -> {
      for (int office : new int[] {-1, 3, SMALL, BIG}) refuses(ARGUMENT, Towns::lively, x -> x.visit(7, office));
    });
    promise(30, "Throws `IllegalArgumentException` if a number is out of range", "first, who visited one today too", () -> {
      refuses(ARGUMENT, Towns::lively, x -> x.visit(5, 3));
      refuses(ARGUMENT, Towns::lively, x -> x.visit(5, -1));
    });
    String cannot = "Throws `UnsupportedOperationException` if it is closed, or the person visited one today";
    promise(30, cannot, "closed, ever or today", () -> {
      for (int days : new int[] {0, 126, 64, 2}) {
        refuses(UNSUPPORTED, () -> { DoorwayCensus x = Towns.seen(1); x.setOffice(0, days); return x; }, x -> x.visit(0, 0));
      }
      refuses(UNSUPPORTED, () -> { DoorwayCensus x = Towns.seen(1); x.setOffice(0, 1); x.passNights(6); return x; },
          x -> x.visit(0, 0));
      refuses(UNSUPPORTED, () -> { DoorwayCensus x = Towns.seen(1); x.setOffice(0, 63); x.passNights(6); return x; },
          x -> x.visit(0, 0));
    });
    promise(30, cannot, "a closed one is no visit of that day", () -> {
      DoorwayCensus x = Towns.seen(1);
      x.setOffice(1, 0);
      due(UNSUPPORTED, answer(x, y -> y.visit(0, 1)));
      due(63, x.visit(0, 0));
    });
    promise(30, cannot, "visited one today, the same or another, though nothing came", () -> {
      for (int first = 0; first < 3; first++) for (int then = 0; then < 3; then++) {
        int one = first;
        int other = then;
        refuses(UNSUPPORTED, () -> { DoorwayCensus x = Towns.seen(1); x.visit(0, one); return x; }, x -> x.visit(0, other));
      }
    });
    promise(30, cannot, "visited one today by another sighting", () -> {
      Build merged = () -> { DoorwayCensus x = Towns.seen(2); x.visit(0, 0); x.merge(0, 1); return x; };
      refuses(UNSUPPORTED, merged, x -> x.visit(1, 1));
      DoorwayCensus x = merged.make();
      x.undoMerge();
      due(63, x.visit(1, 0));
    });
  }

  private static void getPapers() {
    promise(31, "Returns which papers a person holds.", "none at first", () -> due(0, Towns.seen(1).getPapers(0)));
    promise(31, "`sighting`: a sighting of the person", "the first, the last and the next ones", () ->
        sightings((x, v) -> x.getPapers(v)));
    promise(31, "`sighting`: a sighting of the person", "any of them, those of all together", () -> {
      DoorwayCensus x = ladder();
      x.sight(0, 1, 0, 0); x.sight(0, 2, 0, 0);
      x.merge(0, 1); x.merge(1, 2);
      for (int p = 0; p < 6; p++) { x.visit(p % 3, p % 2); x.passNights(1); }
      for (int s = 0; s < 3; s++) due(63, x.getPapers(s));
      x.undoMerge(); x.undoMerge();
      due(9, x.getPapers(0));
      due(18, x.getPapers(1));
      due(36, x.getPapers(2));
    });
    promise(31, "Returns the papers, as bits.", "each by itself", () -> {
      for (int p = 0; p < 6; p++) {
        DoorwayCensus x = Towns.seen(1);
        x.setPaper(p, 2, 0);
        x.visit(0, 2);
        due(1 << p, x.getPapers(0));
      }
    });
    promise(31, "Returns the papers, as bits.", "they stay, whatever is told of the paper later", () -> {
      DoorwayCensus x = Towns.seen(1);
      x.visit(0, 0);
      x.setPaper(0, 1, 62);
      x.setOffice(0, 0);
      x.passNights(60);
      due(63, x.getPapers(0));
    });
    promise(31, "Throws `IndexOutOfBoundsException`", "no such sighting", () -> {
      refuses(INDEX, DoorwayCensus::new, x -> x.getPapers(0));
      refuses(INDEX, Towns::lively, x -> x.getPapers(8));
      refuses(INDEX, Towns::full, x -> x.getPapers(24));
      refuses(INDEX, Towns::full, x -> x.getPapers(-1));
    });
  }

  private static void leastVisits() {
    String all = "Returns by how many visits, at least, a person would hold a paper, days aside.";
    promise(32, all, "1 to 6", () -> {
      DoorwayCensus x = ladder();
      for (int p = 0; p < 6; p++) due(p + 1, x.leastVisits(0, p));
    });
    promise(32, all, "days aside: closed offices, and a visit of today", () -> {
      DoorwayCensus x = ladder();
      x.visit(0, 2);
      for (int o = 0; o < 3; o++) x.setOffice(o, 0);
      for (int p = 0; p < 6; p++) due(p + 1, x.leastVisits(0, p));
    });
    promise(32, all, "the better of two ways", () -> {
      DoorwayCensus x = Towns.seen(1);
      x.setPaper(0, 0, 0); x.setPaper(1, 1, 0); x.setPaper(2, 0, 2); x.setPaper(3, 2, 4); x.setPaper(4, 1, 1);
      x.setPaper(5, 2, 20);
      due(2, x.leastVisits(0, 2));
      due(3, x.leastVisits(0, 3));
      due(2, x.leastVisits(0, 4));
      due(4, x.leastVisits(0, 5));
    });
    promise(32, "`sighting`: a sighting of the person", "the first, the last and the next ones", () ->
        sightings((x, v) -> x.leastVisits(v, 0)));
    promise(32, "`sighting`: a sighting of the person", "any of them", () -> {
      DoorwayCensus x = ladder();
      x.sight(0, 1, 0, 0);
      x.visit(1, 0);
      due(1, x.leastVisits(0, 0));
      x.merge(0, 1);
      due(0, x.leastVisits(0, 0));
      due(5, x.leastVisits(0, 5));
    });
    promise(32, "`paper`: 0 to 5", "the ends and the next ones", () ->
        range(0, 5, Towns::lively, (x, v) -> x.leastVisits(7, v), v -> new int[] {1, 2, 3, 4, 1, 1}[v]));
    promise(32, "Returns how many, -1 if never.", "0 if it is held", () -> {
      DoorwayCensus x = ladder();
      x.visit(0, 0);
      due(0, x.leastVisits(0, 0));
      due(1, x.leastVisits(0, 1));
      x.setPaper(0, 2, 62);
      due(0, x.leastVisits(0, 0));
    });
    promise(32, "Returns how many, -1 if never.", "never: two need one another, or what needs them", () -> {
      DoorwayCensus x = Towns.seen(1);
      x.setPaper(0, 0, 2); x.setPaper(1, 1, 1); x.setPaper(2, 2, 1);
      for (int p = 0; p < 3; p++) due(-1, x.leastVisits(0, p));
      for (int p = 3; p < 6; p++) due(1, x.leastVisits(0, p));
      x.setPaper(0, 0, 0);
      due(2, x.leastVisits(0, 1));
    });
    promise(32, "Returns how many, -1 if never.", "never, all six in a ring", () -> {
      DoorwayCensus x = Towns.seen(1);
      for (int p = 0; p < 6; p++) x.setPaper(p, p % 3, 1 << (p + 1) % 6);
      for (int p = 0; p < 6; p++) due(-1, x.leastVisits(0, p));
    });
  }

  private static void leastVisitsRefused() {
    promise(32, "Throws `IndexOutOfBoundsException`", "no such sighting", () -> {
      refuses(INDEX, DoorwayCensus::new, x -> x.leastVisits(0, 0));
      refuses(INDEX, Towns::full, x -> x.leastVisits(24, 5));
    });
    promise(32, "Throws `IllegalArgumentException` if there is no such paper", "next to the ends", () -> {
      for (int paper : new int[] {-1, 6, 32, SMALL, BIG}) refuses(ARGUMENT, Towns::lively, x -> x.leastVisits(0, paper));
    });
    promise(32, "Throws `IndexOutOfBoundsException`", "first, with no such paper too", () -> {
      refuses(INDEX, Towns::lively, x -> x.leastVisits(8, 6));
      refuses(INDEX, Towns::lively, x -> x.leastVisits(-1, -1));
      refuses(INDEX, DoorwayCensus::new, x -> x.leastVisits(0, 6));
    });
  }

  private static void earliestDay() {
    String all = "Returns the earliest day on which a person can hold a paper, by visits from today on.";
    promise(33, all, "a visit a day", () -> {
      for (int day : new int[] {0, 1, 7, 60}) {
        DoorwayCensus x = ladder();
        Towns.go(x, day);
        for (int p = 0; p < 6; p++) due(day + p, x.earliestDay(0, p));
      }
    });
    promise(33, all, "from tomorrow on who visited one today", () -> {
      DoorwayCensus x = ladder();
      x.visit(0, 2);
      for (int p = 0; p < 6; p++) due(p + 1, x.earliestDay(0, p));
      x.passNights(1);
      for (int p = 0; p < 6; p++) due(p + 1, x.earliestDay(0, p));
    });
    promise(33, all, "on the days on which the offices are open", () -> {
      for (int weekday = 0; weekday < 7; weekday++) for (int day = 0; day < 8; day++) {
        DoorwayCensus x = Towns.seen(1);
        x.setOffice(0, 1 << weekday);
        Towns.go(x, day);
        due(day + Math.floorMod(weekday - day, 7), x.earliestDay(0, 0));
      }
    });
    promise(33, all, "in the order in which the offices open, a week later too", () -> {
      DoorwayCensus x = Towns.seen(1);
      x.setPaper(0, 0, 0); x.setPaper(1, 1, 1); x.setPaper(2, 1, 2); x.setPaper(3, 0, 2); x.setPaper(4, 2, 0);
      x.setPaper(5, 2, 8);
      x.setOffice(0, 1 | 1 << 3); x.setOffice(1, 1 << 1); x.setOffice(2, 1 << 2);
      due(0, x.earliestDay(0, 0));
      due(1, x.earliestDay(0, 1));
      due(1, x.earliestDay(0, 2));
      due(3, x.earliestDay(0, 3));
      due(2, x.earliestDay(0, 4));
      due(9, x.earliestDay(0, 5));
    });
    promise(33, all, "two offices that are open on one day alone", () -> {
      DoorwayCensus x = Towns.seen(1);
      x.setPaper(1, 1, 0); x.setPaper(2, 2, 3);
      x.setOffice(0, 4); x.setOffice(1, 4); x.setOffice(2, 8);
      due(2, x.earliestDay(0, 0));
      due(2, x.earliestDay(0, 1));
      due(10, x.earliestDay(0, 2));
    });
    promise(33, "`sighting`: a sighting of the person", "the first, the last and the next ones", () ->
        sightings((x, v) -> x.earliestDay(v, 0)));
    promise(33, "`sighting`: a sighting of the person", "any of them", () -> {
      DoorwayCensus x = ladder();
      x.sight(0, 1, 0, 0);
      x.visit(1, 0);
      due(0, x.earliestDay(0, 0));
      x.merge(0, 1);
      due(0, x.earliestDay(0, 0));
      due(1, x.earliestDay(0, 1));
      due(5, x.earliestDay(1, 5));
    });
    promise(33, "`paper`: 0 to 5", "the ends and the next ones", () ->
        range(0, 5, Towns::lively, (x, v) -> x.earliestDay(7, v), v -> new int[] {60, 62, 63, 64, 60, 60}[v]));
  }

  private static void earliestDayFar() {
    String answer = "Returns the day, today if it is held, -1 if not within 60 days, today counted.";
    promise(33, answer, "today if it is held", () -> {
      for (int day : new int[] {0, 5, 2000}) {
        DoorwayCensus x = Towns.on(day);
        x.visit(0, 0);
        x.setOffice(0, 0);
        due(day, x.earliestDay(0, 0));
        due(-1, x.earliestDay(1, 0));
      }
    });
    promise(33, answer, "the farthest there can be: six visits, a week between", () -> {
      DoorwayCensus x = ladder();
      x.setOffice(0, 64); x.setOffice(1, 64);
      for (int p = 0; p < 6; p++) due(6 + 7 * p, x.earliestDay(0, p));
      DoorwayCensus y = ladder();
      y.setOffice(0, 1); y.setOffice(1, 1);
      y.visit(0, 2);
      for (int p = 0; p < 6; p++) due(7 + 7 * p, y.earliestDay(0, p));
    });
    promise(33, answer, "never: closed for good", () -> {
      DoorwayCensus x = ladder();
      x.setOffice(1, 0);
      due(0, x.earliestDay(0, 0));
      for (int p = 1; p < 6; p++) due(-1, x.earliestDay(0, p));
      DoorwayCensus y = ladder();
      y.setOffice(0, 0);
      for (int p = 0; p < 6; p++) due(-1, y.earliestDay(0, p));
    });
    promise(33, answer, "never: two need one another", () -> {
      DoorwayCensus x = Towns.seen(1);
      x.setPaper(0, 0, 2); x.setPaper(1, 0, 1);
      due(-1, x.earliestDay(0, 0));
      due(-1, x.earliestDay(0, 1));
      due(0, x.earliestDay(0, 2));
    });
    promise(33, answer, "by visits behind the day 2000 too", () -> {
      DoorwayCensus x = Towns.on(2000);
      due(2000, x.earliestDay(0, 0));
      x.visit(0, 1);
      due(2001, x.earliestDay(0, 0));
      x.setOffice(0, 1 << 1999 % 7);
      due(2006, x.earliestDay(1, 0));
    });
    promise(33, answer, "it changes nothing", () -> {
      same(Towns::lively, () -> {
        DoorwayCensus x = Towns.lively();
        for (int p = 0; p < 6; p++) { x.earliestDay(7, p); x.leastVisits(7, p); }
        return x;
      });
    });
  }

  private static void earliestDayRefused() {
    promise(33, "Throws `IndexOutOfBoundsException`", "no such sighting", () -> {
      refuses(INDEX, DoorwayCensus::new, x -> x.earliestDay(0, 0));
      refuses(INDEX, Towns::full, x -> x.earliestDay(24, 5));
    });
    promise(33, "Throws `IllegalArgumentException` if there is no such paper", "next to the ends", () -> {
      for (int paper : new int[] {-1, 6, 32, SMALL, BIG}) refuses(ARGUMENT, Towns::lively, x -> x.earliestDay(0, paper));
    });
    promise(33, "Throws `IndexOutOfBoundsException`", "first, with no such paper too", () -> {
      refuses(INDEX, Towns::lively, x -> x.earliestDay(8, 6));
      refuses(INDEX, Towns::lively, x -> x.earliestDay(-1, -1));
      refuses(INDEX, DoorwayCensus::new, x -> x.earliestDay(0, 6));
    });
  }

  private static void store() {
    String all = "Stores papers of a person, or, with all sightings of the person, no more.";
    promise(34, all, "stored with the one told", () -> {
      DoorwayCensus x = Towns.seen(2);
      x.merge(0, 1);
      x.store(1, true);
      x.undoMerge();
      due(false, x.store(0, false));
      due(true, x.store(1, false));
    });
    promise(34, all, "no more with all sightings", () -> {
      DoorwayCensus x = Towns.full();
      for (int s = 0; s < 24; s++) x.store(s, true);
      x.store(20, false);
      for (int n = 0; n < 20; n++) x.undoMerge();
      for (int s = 0; s < 24; s++) due(s > 20, x.store(s, false));
    });
    promise(34, all, "no more with those of the person alone, as it is then", () -> {
      DoorwayCensus x = Towns.seen(2);
      x.store(0, true); x.store(1, true);
      x.merge(0, 1);
      x.undoMerge();
      x.store(0, false);
      due(true, x.store(1, false));
    });
    promise(34, "`sighting`: a sighting of the person", "the first, the last and the next ones", () -> {
      sightings((x, v) -> x.store(v, true));
      sightings((x, v) -> x.store(v, false));
    });
    promise(34, "`sighting`: a sighting of the person", "any of them", () -> {
      for (int s = 0; s <= 20; s++) {
        DoorwayCensus x = Towns.full();
        due(false, x.store(s, true));
        due(true, x.store(20 - s, true));
        due(false, x.store(21, true));
      }
    });
    promise(34, "`is`: whether they are stored", "both", () -> {
      for (boolean is : new boolean[] {true, false}) {
        DoorwayCensus x = Towns.seen(1);
        x.visit(0, 0);
        x.store(0, is);
        x.passNights(1);
        due(is ? 0 : 1, x.sweep());
        due(is ? 63 : 0, x.getPapers(0));
      }
    });
    promise(34, "Returns whether those of the person were.", "not at first, then each", () -> {
      DoorwayCensus x = Towns.seen(1);
      due(false, x.store(0, false));
      due(false, x.store(0, true));
      due(true, x.store(0, true));
      due(true, x.store(0, false));
      due(false, x.store(0, true));
    });
    promise(34, "Throws `IndexOutOfBoundsException`", "no such sighting", () -> {
      for (boolean is : new boolean[] {true, false}) {
        refuses(INDEX, DoorwayCensus::new, x -> x.store(0, is));
        refuses(INDEX, Towns::lively, x -> x.store(8, is));
        refuses(INDEX, Towns::full, x -> x.store(24, is));
        refuses(INDEX, Towns::full, x -> x.store(-1, is));
      }
    });
  }

  private static void sweep() {
    promise(35, "Sweeps.", "all papers, of those outside", () -> {
      DoorwayCensus x = Towns.seen(2);
      x.visit(0, 0); x.visit(1, 0);
      x.passNights(1);
      x.sweep();
      due(0, x.getPapers(0));
      due(0, x.getPapers(1));
    });
    promise(35, "Sweeps.", "they can be got again", () -> {
      DoorwayCensus x = Towns.seen(1);
      x.visit(0, 0);
      x.passNights(1);
      x.sweep();
      due(1, x.leastVisits(0, 0));
      due(63, x.visit(0, 0));
      due(1, x.sweep());
      due(UNSUPPORTED, answer(x, y -> y.visit(0, 0)));
    });
    promise(35, "Returns how many persons lose papers.", "none there, none outside yet, none held", () -> {
      due(0, new DoorwayCensus().sweep());
      DoorwayCensus x = Towns.seen(1);
      x.visit(0, 0);
      due(0, x.sweep());
      due(63, x.getPapers(0));
      DoorwayCensus y = Towns.seen(1);
      y.passNights(1);
      due(0, y.sweep());
    });
    promise(35, "Returns how many persons lose papers.", "all 24, then none", () -> {
      DoorwayCensus x = Towns.seen(24);
      for (int s = 0; s < 24; s++) x.visit(s, 0);
      x.passNights(1);
      due(24, x.sweep());
      due(0, x.sweep());
    });
    promise(35, "Returns how many persons lose papers.", "persons, not sightings, nor papers", () -> {
      DoorwayCensus x = Towns.full();
      x.visit(20, 0); x.visit(21, 0);
      x.passNights(1);
      x.visit(19, 0);
      due(2, x.sweep());
      for (int s = 0; s < 24; s++) due(0, x.getPapers(s));
    });
  }

  private static void sweepOfWhom() {
    promise(35, "Sweeps.", "not of those with a bed, or a home, last night", () -> {
      DoorwayCensus x = Towns.seen(3);
      x.addShelter(1, 7, 40); x.addHome(1, 0, 7); x.addFund(9, 1);
      for (int s = 0; s < 3; s++) x.visit(s, 0);
      x.ask(0); x.giveBeds(); x.house(0, 1, 0);
      x.passNights(1);
      due(1, x.sweep());
      due(63, x.getPapers(0));
      due(63, x.getPapers(1));
      due(0, x.getPapers(2));
    });
    promise(35, "Sweeps.", "last night, not the one before", () -> {
      DoorwayCensus x = Towns.on(0);
      x.visit(0, 0);
      x.passNights(1);
      x.ask(0); x.giveBeds();
      x.passNights(1);
      due(0, x.sweep());
      x.passNights(1);
      due(1, x.sweep());
    });
    promise(35, "Sweeps.", "outside last night, with a bed or a home now", () -> {
      DoorwayCensus x = Towns.on(0);
      x.visit(0, 0); x.visit(1, 0);
      x.passNights(1);
      x.ask(0); x.giveBeds(); x.house(0, 1, 0);
      due(2, x.sweep());
    });
    promise(35, "Sweeps.", "the night in which a home was lost was not outside", () -> {
      DoorwayCensus x = Towns.full();
      x.house(5, 21, 0);
      x.passNights(60);
      x.visit(21, 0);
      x.passNights(30);
      due(1, x.countReturns());
      due(0, x.sweep());
      x.passNights(1);
      due(1, x.sweep());
    });
    promise(35, "Sweeps.", "unless stored, by any sighting", () -> {
      DoorwayCensus x = Towns.full();
      x.visit(0, 0); x.visit(21, 0); x.visit(22, 0);
      x.store(20, true); x.store(22, true);
      x.passNights(1);
      due(1, x.sweep());
      due(63, x.getPapers(0));
      due(0, x.getPapers(21));
      x.undoMerge();
      due(1, x.sweep());
      due(0, x.getPapers(0));
    });
  }
}
