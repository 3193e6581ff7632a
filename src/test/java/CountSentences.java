/** Promises 43 to 48: counts, estimates, shares, sums, and whether all is sound. */
final class CountSentences extends Checks {
  static void run() {
    countIn(); countInRefused(); estimate(); estimateRefused(); homeShare(); meanNights(); checksum(); isSound();
  }

  private static void places(DoorwayCensus x, int beds, int homes, int outside) {
    due(beds, x.countIn('b'));
    due(homes, x.countIn('h'));
    due(outside, x.countIn('o'));
  }

  private static void countIn() {
    promise(43, "Counts persons in this night.", "none, and all 24 outside", () -> {
      places(new DoorwayCensus(), 0, 0, 0);
      places(Towns.seen(24), 0, 0, 24);
    });
    promise(43, "Counts persons in this night.", "persons, not sightings", () -> {
      DoorwayCensus x = Towns.full();
      places(x, 0, 0, 4);
      x.ask(20); x.giveBeds();
      places(x, 1, 0, 3);
      x.undoMerge();
      places(x, 1, 0, 4);
    });
    promise(43, "Counts persons in this night.", "in this night: beds are free the next one, homes stay", () -> {
      DoorwayCensus x = Towns.full();
      x.ask(21); x.giveBeds();
      x.house(0, 22, 3);
      places(x, 1, 1, 2);
      x.passNights(1);
      places(x, 0, 1, 3);
    });
    promise(43, "`where`: b with a bed, h with a home, o with neither", "each", () -> {
      DoorwayCensus x = Towns.seen(24);
      x.addShelter(9, 7, 40); x.addFund(0, 63);
      for (int h = 0; h < 6; h++) { x.addHome(1, 0, 7); x.house(h, h, 0); }
      for (int s = 6; s < 20; s++) x.ask(s);
      places(x, 0, 6, 18);
      x.giveBeds();
      places(x, 9, 6, 9);
      x.notCome(6);
      places(x, 9, 6, 9);
    });
    promise(43, "Returns how many.", "who asked but got none is outside, who lost a home too", () -> {
      DoorwayCensus x = Towns.on(0);
      x.ask(0);
      places(x, 0, 0, 2);
      x.addFund(0, 1);
      x.house(0, 0, 1);
      places(x, 0, 1, 1);
      Towns.go(x, 90);
      places(x, 0, 0, 2);
    });
  }

  private static void countInRefused() {
    promise(43, "Throws `IllegalArgumentException` if there is no such place", "the next ones, other cases, the ends", () -> {
      for (char c : new char[] {'a', 'c', 'g', 'i', 'n', 'p', 'B', 'H', 'O', 0, ' ', '0', 255, 256, 65535}) {
        refuses(ARGUMENT, Towns::lively, x -> x.countIn(c));
      }
    });
    promise(43, "Throws `IllegalArgumentException` if there is no such place", "of 65536 characters just three", () -> {
      int taken = 0;
      DoorwayCensus x = new DoorwayCensus();
      for (int c = 0; c < 65536; c++) {
        if (c % 500 == 0) x = Towns.seen(1);
        char where = (char) c;
        Object got = answer(x, y -> y.countIn(where));
        if (got != ARGUMENT) taken++;
      }
      due(3, taken);
    });
  }

  /** So many seen at the door 0, at the door 3, and at both. */
  private static DoorwayCensus seenAt(int one, int other, int both) {
    DoorwayCensus x = new DoorwayCensus();
    for (int s = 0; s < one; s++) x.sight(0, s, 0, 0);
    for (int s = 0; s < other; s++) x.sight(3, s, 0, 0);
    for (int s = 0; s < both; s++) {
      x.share(s, true); x.share(one + s, true);
      x.merge(s, one + s);
    }
    return x;
  }

  private static void estimate() {
    promise(44, "Estimates how many persons there are.", "none seen, at one door, at both", () -> {
      due(0, new DoorwayCensus().estimate(0, 3));
      due(24, seenAt(24, 0, 0).estimate(0, 3));
      due(24, seenAt(0, 24, 0).estimate(0, 3));
      due(0, seenAt(24, 0, 0).estimate(1, 2));
      due(168, seenAt(12, 12, 0).estimate(0, 3));
      due(12, seenAt(12, 12, 12).estimate(0, 3));
    });
    promise(44, "Estimates how many persons there are.", "each number of persons, cut", () -> {
      for (int n = 0; n <= 6; n++) for (int m = 0; m <= 6; m++) for (int k = 0; k <= Math.min(n, m); k++) {
        int want = -1;
        for (int all = (n + 1) * (m + 1); all >= k + 1; all -= k + 1) want++;
        due(want, seenAt(n, m, k).estimate(0, 3));
        due(want, seenAt(n, m, k).estimate(3, 0));
      }
    });
    promise(44, "`door`: 0 to 3", "the ends and the next ones", () ->
        range(0, 3, Towns::lively, (x, v) -> x.estimate(v, v == 0 ? 1 : 0) >= 0, v -> true));
    promise(44, "`other`: another door", "the ends and the next ones", () ->
        range(0, 3, Towns::lively, (x, v) -> x.estimate(v == 0 ? 1 : 0, v) >= 0, v -> true));
    promise(44, "`other`: another door", "each two doors", () -> {
      for (int one = 0; one < 4; one++) for (int other = 0; other < 4; other++) {
        if (one == other) continue;
        DoorwayCensus x = new DoorwayCensus();
        for (int s = 0; s < 3; s++) x.sight(one, s, 0, 0);
        for (int s = 0; s < 4; s++) x.sight(other, s, 0, 0);
        due(19, x.estimate(one, other));
        due(19, x.estimate(other, one));
        due(3, x.estimate(one, third(one, other)));
      }
    });
    promise(44, "Returns the estimate.", "persons, not sightings", () -> {
      DoorwayCensus x = Towns.full();
      due(4, x.estimate(0, 1));
      x.undoMerge();
      due(5, x.estimate(0, 1));
    });
  }

  private static int third(int one, int other) {
    for (int d = 0; d < 4; d++) if (d != one && d != other) return d;
    return -1;
  }

  private static void estimateRefused() {
    String all = "Throws `IllegalArgumentException` if there is no such door, or both are the same";
    promise(44, all, "no such door, for either, or both", () -> {
      int[][] bad = {{-1, 0}, {4, 0}, {0, -1}, {3, 4}, {-1, 4}, {4, -1}, {SMALL, 0}, {0, BIG}};
      for (int[] b : bad) refuses(ARGUMENT, Towns::lively, x -> x.estimate(b[0], b[1]));
    });
    promise(44, all, "both are the same", () -> {
      for (int door : new int[] {0, 1, 2, 3, 4, -1}) {
        refuses(ARGUMENT, Towns::lively, x -> x.estimate(door, door));
        refuses(ARGUMENT, DoorwayCensus::new, x -> x.estimate(door, door));
      }
    });
  }

  private static void homeShare() {
    promise(45, "Returns the share of persons that have a home.", "none, and all", () -> {
      due(0.0f, Towns.seen(24).homeShare());
      DoorwayCensus x = Towns.seen(6);
      x.addFund(0, 63);
      for (int h = 0; h < 6; h++) { due(h / 6.0f, x.homeShare()); x.addHome(1, 0, 7); x.house(h, h, 0); }
      due(1.0f, x.homeShare());
    });
    promise(45, "Returns their number divided by that of all, both converted to float.", "each 0 to 6 of 1 to 24", () -> {
      for (int all = 1; all <= 24; all++) for (int homes = 0; homes <= Math.min(6, all); homes++) {
        DoorwayCensus x = Towns.seen(all);
        x.addFund(0, 63);
        for (int h = 0; h < homes; h++) { x.addHome(1, 0, 7); x.house(h, h, 0); }
        due((float) homes / (float) all, x.homeShare());
      }
    });
    promise(45, "Returns their number divided by that of all, both converted to float.", "persons, not sightings", () -> {
      DoorwayCensus x = Towns.full();
      x.house(0, 20, 0);
      due(0.25f, x.homeShare());
      x.undoMerge();
      due(0.2f, x.homeShare());
    });
    promise(45, "Throws `ArithmeticException` if there are none", "none, and one", () -> {
      refuses(ARITHMETIC, DoorwayCensus::new, x -> x.homeShare());
      refuses(ARITHMETIC, Towns::deserted, x -> x.homeShare());
      due(0.0f, Towns.seen(1).homeShare());
    });
  }

  private static void meanNights() {
    promise(46, "Returns the mean number of nights outside.", "none, and all 2000", () -> {
      due(0.0, Towns.seen(1).meanNights());
      DoorwayCensus x = Towns.seen(24);
      Towns.go(x, 2000);
      due(2000.0, x.meanNights());
      x.merge(0, 1);
      due(48000.0 / 23.0, x.meanNights());
    });
    promise(46, "Returns the sum divided by the number of persons, both converted to double.", "thirds", () -> {
      DoorwayCensus x = Towns.seen(1);
      x.passNights(1);
      x.sight(0, 0, 0, 0); x.sight(0, 0, 0, 0);
      due(1.0 / 3.0, x.meanNights());
      x.passNights(2);
      due(7.0 / 3.0, x.meanNights());
      x.merge(1, 2);
      due(3.5, x.meanNights());
    });
    promise(46, "Throws `ArithmeticException` if there are none", "none, and one", () -> {
      refuses(ARITHMETIC, DoorwayCensus::new, x -> x.meanNights());
      refuses(ARITHMETIC, Towns::deserted, x -> x.meanNights());
      due(0.0, Towns.seen(1).meanNights());
    });
  }

  private static void checksum() {
    promise(47, "Returns a sum over the town.", "the least of all: nothing there", () -> {
      due(sum(0), new DoorwayCensus().checksum());
      DoorwayCensus x = new DoorwayCensus();
      Towns.go(x, 2000);
      due(sum(2000), x.checksum());
    });
    String parts = "Returns 7 at first, then for each person, by numbers";
    promise(47, parts, "persons, papers, nights", () -> {
      DoorwayCensus x = Towns.seen(3);
      x.visit(1, 0);
      x.passNights(2);
      due(sum(0, 0, 2, 1, 63, 2, 2, 0, 2, 2), x.checksum());
      x.merge(1, 2);
      due(sum(0, 0, 2, 1, 63, 4, 2), x.checksum());
      x.merge(0, 2);
      due(sum(0, 63, 6, 2), x.checksum());
    });
    promise(47, parts, "homes by what is behind, then funds by coins, then the day", () -> {
      DoorwayCensus x = Towns.seen(1);
      x.addFund(99999, 2); x.addHome(7, 0, 7); x.addFund(5, 1); x.addHome(9, 0, 7);
      due(sum(0, 0, 0, 0, 0, 99999, 5, 0), x.checksum());
      x.house(0, 0, 1);
      Towns.go(x, 60);
      due(sum(0, 0, 0, 2, 0, 99999, 5, 60), x.checksum());
      Towns.go(x, 30);
      due(sum(0, 0, 0, 0, 0, 99999, 5, 90), x.checksum());
      x.house(1, 0, 0);
      Towns.go(x, 30);
      due(sum(0, 0, 0, 0, 0, 99990, 5, 120), x.checksum());
    });
    promise(47, parts, "a town that is full, whose sum wraps around", () -> {
      DoorwayCensus x = Towns.seen(24);
      for (int h = 0; h < 6; h++) x.addHome(1, 0, 7);
      for (int f = 0; f < 4; f++) x.addFund(f, 63);
      for (int s = 0; s < 24; s++) x.visit(s, 0);
      Towns.go(x, 2000);
      long[] all = new long[83];
      for (int s = 0; s < 24; s++) { all[3 * s] = s; all[3 * s + 1] = 63; all[3 * s + 2] = 2000; }
      for (int f = 0; f < 4; f++) all[78 + f] = f;
      all[82] = 2000;
      due(sum(all), x.checksum());
    });
    promise(47, parts, "it changes nothing", () -> {
      DoorwayCensus x = Towns.lively();
      long first = x.checksum();
      due(first, x.checksum());
    });
  }

  private static void isSound() {
    String all = "Returns whether all is sound: persons with a bed, with a home, and with neither are all persons, each once; "
        + "no shelter has more persons than beds; and no home has two.";
    promise(48, all, "nothing there, and all there can be", () -> {
      due(true, new DoorwayCensus().isSound());
      due(true, Towns.full().isSound());
      due(true, Towns.lively().isSound());
      due(true, Towns.on(2000).isSound());
    });
    promise(48, all, "each person in one place, through merges, and undone ones", () -> {
      DoorwayCensus x = Towns.full();
      x.ask(20); x.ask(21);
      x.giveBeds();
      x.house(0, 22, 0);
      for (int left = 0; left < 20; left++) {
        due(true, x.isSound());
        due(x.countPersons(), x.countIn('b') + x.countIn('h') + x.countIn('o'));
        x.undoMerge();
      }
      due(true, x.isSound());
    });
    promise(48, all, "no shelter overfull, whoever asks, comes not, or moves out", () -> {
      DoorwayCensus x = Towns.seen(24);
      for (int h = 0; h < 5; h++) x.addShelter(2, 7, 40);
      x.addHome(1, 0, 7); x.addFund(0, 1);
      for (int s = 0; s < 24; s++) x.ask(s);
      due(10, x.giveBeds());
      due(true, x.isSound());
      x.notCome(0); x.house(0, 1, 0); x.giveBeds();
      for (int h = 0; h < 5; h++) due(0, x.freeBeds(h));
      due(true, x.isSound());
    });
    promise(48, "Returns true if so.", "no home has two, whoever is merged", () -> {
      DoorwayCensus x = Towns.seen(3);
      x.addHome(1, 0, 7); x.addFund(0, 1);
      x.house(0, 0, 0);
      due(UNSUPPORTED, answer(x, y -> y.house(0, 1, 0)));
      x.merge(0, 1); x.merge(1, 2);
      due(true, x.isSound());
      x.undoMerge(); x.undoMerge();
      due(1, x.countIn('h'));
      due(true, x.isSound());
    });
  }
}
