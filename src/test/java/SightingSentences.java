/** Promises 1 to 13: a new object, sightings and persons. */
final class SightingSentences extends Checks {
  static void run() {
    newObject(); sight(); sightRefused(); setNeeds(); setHarm(); share();
    merge(); mergeOneDoor(); mergeYears(); mergePlaces(); mergeOrder(); mergeFull();
    undoMerge(); getPerson(); countPersons(); getLikeness(); mostLike(); getScore(); setWeights();
  }

  private static void newObject() {
    String all = "Creates a town without sightings, shelters and homes, on the day 0.";
    promise(1, all, "no sighting", () -> {
      DoorwayCensus x = new DoorwayCensus();
      due(0, x.countPersons());
      refuses(INDEX, DoorwayCensus::new, y -> y.getPerson(0));
      due(0, x.sight(0, 0, 0, 0));
    });
    promise(1, all, "no shelter", () -> {
      refuses(INDEX, DoorwayCensus::new, y -> y.isOpen(0));
      due(0, new DoorwayCensus().addShelter(1, 0, 0));
    });
    promise(1, all, "no home", () -> {
      refuses(INDEX, DoorwayCensus::new, y -> y.getBehind(0));
      due(0, new DoorwayCensus().addHome(1, 0, 0));
    });
    promise(1, all, "no fund", () -> due(0, new DoorwayCensus().addFund(1, 0)));
    promise(1, all, "the day 0", () -> {
      due(217L, new DoorwayCensus().checksum());
      due(1, new DoorwayCensus().passNights(1));
      due(60, new DoorwayCensus().passNights(60));
    });
    promise(1, all, "two towns are apart", () -> {
      DoorwayCensus x = Towns.full();
      DoorwayCensus y = new DoorwayCensus();
      due(4, x.countPersons());
      due(0, y.countPersons());
      due(0, y.addShelter(1, 0, 0));
      due(1, y.freeBeds(0));
    });
  }

  private static void sight() {
    promise(2, "Tells a sighting.", "one person more", () -> {
      DoorwayCensus x = new DoorwayCensus();
      for (int s = 0; s < 24; s++) { x.sight(0, 0, 0, 0); due(s + 1, x.countPersons()); due(s, x.getPerson(s)); }
    });
    promise(2, "`door`: 0 to 3", "the ends and the next ones", () ->
        range(0, 3, Towns::lively, (x, v) -> x.sight(v, 9, 0, 9), v -> 8));
    promise(2, "`door`: 0 to 3", "each is a door of its own", () -> {
      for (int one = 0; one < 4; one++) for (int other = 0; other < 4; other++) {
        DoorwayCensus x = new DoorwayCensus();
        x.sight(one, 0, 0, 0); x.sight(other, 0, 0, 0);
        due(one == other ? 2 : UNSUPPORTED, answer(x, y -> y.merge(0, 1)));
      }
    });
    promise(2, "`name`: 0 to 99", "the ends and the next ones", () ->
        range(0, 99, Towns::lively, (x, v) -> x.sight(0, v, 0, 9), v -> 8));
    promise(2, "`name`: 0 to 99", "each is a name of its own", () -> {
      for (int name = 0; name < 100; name++) {
        DoorwayCensus x = new DoorwayCensus();
        x.sight(0, name, 0, 0); x.sight(0, name, 0, 0); x.sight(0, name == 99 ? 0 : name + 1, 0, 0);
        due(6, x.getLikeness(0, 1));
        due(2, x.getLikeness(0, 2));
      }
    });
    promise(2, "`year`: 1930 to 2020, or 0", "the ends and the next ones", () ->
        range(1930, 2020, Towns::lively, (x, v) -> x.sight(0, 9, v, 9), v -> 8));
    promise(2, "`year`: 1930 to 2020, or 0", "0 and its neighbours", () -> {
      due(8, Towns.lively().sight(0, 9, 0, 9));
      for (int year : new int[] {-1, 1, 30, -1930, 1929, 2021}) {
        refuses(ARGUMENT, Towns::lively, x -> x.sight(0, 9, year, 9));
      }
    });
    promise(2, "`year`: 1930 to 2020, or 0", "each of 1930 to 2020 is told, 0 is not", () -> {
      for (int year = 1930; year <= 2020; year++) {
        DoorwayCensus x = new DoorwayCensus();
        x.sight(0, 0, year, 0); x.sight(0, 0, year == 1930 ? 2020 : year - 1, 0); x.sight(0, 0, 0, 0);
        due(9, x.getLikeness(0, 0));
        due(2, x.getLikeness(0, 1));
        due(6, x.getLikeness(0, 2));
      }
    });
    promise(2, "`look`: 0 to 9", "the ends and the next ones", () ->
        range(0, 9, Towns::lively, (x, v) -> x.sight(0, 9, 0, v), v -> 8));
    promise(2, "`look`: 0 to 9", "each is a look of its own", () -> {
      for (int look = 0; look < 10; look++) {
        DoorwayCensus x = new DoorwayCensus();
        x.sight(0, 0, 0, look); x.sight(0, 0, 0, look); x.sight(0, 0, 0, look == 9 ? 0 : look + 1);
        due(6, x.getLikeness(0, 1));
        due(3, x.getLikeness(0, 2));
      }
    });
    promise(2, "Returns its number.", "from 0 to 23", () -> {
      DoorwayCensus x = new DoorwayCensus();
      for (int s = 0; s < 24; s++) due(s, x.sight(3, 99, 2020, 9));
    });
    promise(2, "Returns its number.", "merges do not count", () -> {
      DoorwayCensus x = Towns.seen(3);
      x.merge(0, 2);
      due(3, x.sight(0, 0, 0, 0));
    });
  }

  private static void sightRefused() {
    String range = "Throws `IllegalArgumentException` if a number is out of range";
    promise(2, range, "each number alone, the others at their ends", () -> {
      int[][] bad = {{4, 0, 0, 0}, {-1, 99, 2020, 9}, {0, 100, 1930, 0}, {3, -1, 0, 9}, {0, 0, 1929, 9}, {3, 99, 2021, 0},
          {3, 99, 1, 9}, {0, 0, -1, 0}, {3, 99, 2020, 10}, {0, 0, 0, -1}};
      for (int[] b : bad) {
        refuses(ARGUMENT, DoorwayCensus::new, x -> x.sight(b[0], b[1], b[2], b[3]));
        refuses(ARGUMENT, Towns::lively, x -> x.sight(b[0], b[1], b[2], b[3]));
      }
    });
    promise(2, range, "the next number is given to the next sighting", () -> {
      DoorwayCensus x = Towns.seen(1);
      answer(x, y -> y.sight(0, 0, 0, 10));
      due(1, x.sight(0, 0, 0, 0));
    });
    promise(2, "Throws `IllegalStateException` if there were 24", "the 24th is taken, the 25th is not", () -> {
      due(23, Towns.seen(23).sight(0, 0, 0, 0));
      refuses(STATE, () -> Towns.seen(24), x -> x.sight(0, 0, 0, 0));
      refuses(STATE, Towns::full, x -> x.sight(3, 99, 2020, 9));
    });
    promise(2, "Throws `IllegalStateException` if there were 24", "an undone merge makes no room", () ->
        refuses(STATE, () -> { DoorwayCensus x = Towns.full(); x.undoMerge(); return x; }, x -> x.sight(0, 0, 0, 0)));
    promise(2, range, "first, where there were 24 too", () -> {
      int[][] bad = {{4, 0, 0, 0}, {0, 100, 0, 0}, {0, 0, 1929, 0}, {0, 0, 0, 10}, {-1, -1, -1, -1}};
      for (int[] b : bad) refuses(ARGUMENT, Towns::full, x -> x.sight(b[0], b[1], b[2], b[3]));
    });
  }

  private static void setNeeds() {
    promise(3, "Tells needs.", "instead of those before", () -> {
      DoorwayCensus x = Towns.seen(1);
      x.addShelter(1, 1, 0);
      x.setNeeds(0, 2);
      due(false, x.takes(0, 0));
      x.setNeeds(0, 1);
      due(true, x.takes(0, 0));
    });
    promise(3, "`sighting`: the sighting", "the first, the last and the next ones", () ->
        sightings((x, v) -> x.setNeeds(v, 1)));
    promise(3, "`sighting`: the sighting", "no other one of the person", () -> {
      DoorwayCensus x = Towns.seen(3);
      x.merge(0, 1);
      x.setNeeds(1, 7);
      due(0, x.setNeeds(0, 0));
      due(0, x.setNeeds(2, 0));
      due(7, x.setNeeds(1, 0));
    });
    promise(3, "`needs`: 0 to 7, as bits", "the ends and the next ones", () ->
        range(0, 7, Towns::lively, (x, v) -> x.setNeeds(1, v), v -> 1));
    promise(3, "`needs`: 0 to 7, as bits", "each bit by itself", () -> {
      for (int needs = 0; needs < 8; needs++) for (int takes = 0; takes < 5; takes++) {
        DoorwayCensus x = Towns.seen(1);
        int some = takes == 3 ? 7 : takes;
        x.addShelter(1, some, 0);
        x.setNeeds(0, needs);
        due((needs | some) == some, x.takes(0, 0));
      }
    });
    promise(3, "Returns those before.", "0 at first, then each", () -> {
      DoorwayCensus x = Towns.seen(24);
      for (int s = 0; s < 24; s++) {
        int before = 0;
        for (int needs = 7; needs >= 0; needs--) { due(before, x.setNeeds(s, needs)); before = needs; }
      }
    });
    promise(3, "Throws `IndexOutOfBoundsException`", "no such sighting", () ->
        sightings((x, v) -> x.setNeeds(v, 0)));
    promise(3, "Throws `IllegalArgumentException`", "next to the ends", () -> {
      refuses(ARGUMENT, Towns::lively, x -> x.setNeeds(0, -1));
      refuses(ARGUMENT, Towns::lively, x -> x.setNeeds(7, 8));
    });
    promise(3, "Throws `IndexOutOfBoundsException`", "first, with wrong needs too", () -> {
      for (int needs : new int[] {-1, 8, SMALL, BIG}) {
        refuses(INDEX, Towns::lively, x -> x.setNeeds(8, needs));
        refuses(INDEX, Towns::lively, x -> x.setNeeds(-1, needs));
      }
    });
  }

  private static void setHarm() {
    promise(4, "Tells harm, and years outside.", "instead of those before", () -> {
      DoorwayCensus x = Towns.seen(1);
      x.setHarm(0, 9, 60);
      x.setHarm(0, 2, 1);
      due(3, x.getScore(0));
    });
    promise(4, "`sighting`: the sighting", "the first, the last and the next ones", () ->
        sightings((x, v) -> x.setHarm(v, 1, 1)));
    promise(4, "`sighting`: the sighting", "no other one of the person", () -> {
      DoorwayCensus x = Towns.seen(2);
      x.merge(0, 1);
      x.setHarm(1, 9, 60);
      due(0, x.setHarm(0, 0, 0));
      x.undoMerge();
      due(0, x.getScore(0));
      due(69, x.getScore(1));
    });
    promise(4, "`harm`: 0 to 9", "the ends and the next ones", () ->
        range(0, 9, Towns::lively, (x, v) -> { x.setHarm(7, v, 0); return x.getScore(7); }, v -> 3 * v));
    promise(4, "`years`: 0 to 60", "the ends and the next ones", () ->
        range(0, 60, Towns::lively, (x, v) -> { x.setHarm(7, 0, v); return x.getScore(7); }, v -> 2 * v));
    promise(4, "Returns the harm before.", "0 at first, then each, not the years", () -> {
      DoorwayCensus x = Towns.seen(1);
      int before = 0;
      for (int harm = 9; harm >= 0; harm--) { due(before, x.setHarm(0, harm, 60 - harm)); before = harm; }
    });
    promise(4, "Throws `IndexOutOfBoundsException`", "no such sighting", () ->
        sightings((x, v) -> x.setHarm(v, 0, 0)));
    promise(4, "Throws `IllegalArgumentException`", "each number alone, the other one at its ends", () -> {
      int[][] bad = {{-1, 0}, {-1, 60}, {10, 0}, {10, 60}, {0, -1}, {9, -1}, {0, 61}, {9, 61}};
      for (int[] b : bad) refuses(ARGUMENT, Towns::lively, x -> x.setHarm(0, b[0], b[1]));
    });
    promise(4, "Throws `IndexOutOfBoundsException`", "first, with wrong numbers too", () -> {
      refuses(INDEX, Towns::lively, x -> x.setHarm(8, 10, 0));
      refuses(INDEX, Towns::lively, x -> x.setHarm(-1, 0, 61));
      refuses(INDEX, Towns::lively, x -> x.setHarm(BIG, -1, -1));
    });
  }

  /** Two sightings at unlike doors, told to be shared or not. */
  private static DoorwayCensus apart(boolean one, boolean other) {
    DoorwayCensus x = new DoorwayCensus();
    x.sight(0, 0, 0, 0); x.sight(1, 0, 0, 0);
    x.share(0, one); x.share(1, other);
    return x;
  }

  private static void share() {
    promise(5, "Shares a sighting, or no more; merges stay.", "shared, and no more", () -> {
      DoorwayCensus x = apart(true, true);
      x.share(0, false);
      due(UNSUPPORTED, answer(x, y -> y.merge(0, 1)));
      x.share(0, true);
      due(2, x.merge(0, 1));
    });
    promise(5, "Shares a sighting, or no more; merges stay.", "merges stay", () -> {
      DoorwayCensus x = apart(true, true);
      x.merge(0, 1);
      x.share(0, false); x.share(1, false);
      due(0, x.getPerson(1));
      due(1, x.countPersons());
      due(0, x.undoMerge());
    });
    promise(5, "`sighting`: the sighting", "the first, the last and the next ones", () ->
        sightings((x, v) -> x.share(v, true)));
    promise(5, "`sighting`: the sighting", "no other one of the person", () -> {
      DoorwayCensus x = Towns.seen(2);
      x.merge(0, 1);
      x.share(0, true);
      due(false, x.share(1, true));
    });
    promise(5, "`is`: whether it is shared", "both", () -> {
      due(2, answer(apart(true, true), y -> y.merge(0, 1)));
      due(UNSUPPORTED, answer(apart(false, false), y -> y.merge(0, 1)));
    });
    promise(5, "Returns whether it was.", "false at first, then each", () -> {
      DoorwayCensus x = Towns.seen(1);
      due(false, x.share(0, false));
      due(false, x.share(0, true));
      due(true, x.share(0, true));
      due(true, x.share(0, false));
      due(false, x.share(0, false));
    });
    promise(5, "Throws `IndexOutOfBoundsException`", "no such sighting", () ->
        sightings((x, v) -> x.share(v, false)));
  }

  private static void merge() {
    promise(6, "Merges two sightings.", "in either order", () -> {
      for (int one = 0; one < 3; one++) for (int other = 0; other < 3; other++) {
        if (one == other) continue;
        DoorwayCensus x = Towns.seen(3);
        due(2, x.merge(one, other));
        due(2, x.countPersons());
        due(Math.min(one, other), x.getPerson(Math.max(one, other)));
        due(3 - one - other, x.getPerson(3 - one - other));
      }
    });
    promise(6, "`sighting`: the sighting", "the first, the last and the next ones", () ->
        sightings((x, v) -> x.merge(v, 4)));
    promise(6, "`other`: the other one", "the first, the last and the next ones", () ->
        sightings((x, v) -> x.merge(4, v)));
    promise(6, "Returns how many sightings the person has.", "2 to 21", () -> {
      DoorwayCensus x = Towns.seen(24);
      for (int s = 1; s <= 20; s++) due(s + 1, x.merge(s, s - 1));
    });
    promise(6, "Returns how many sightings the person has.", "of both persons together", () -> {
      DoorwayCensus x = Towns.seen(24);
      for (int s = 1; s < 10; s++) x.merge(0, s);
      for (int s = 11; s < 20; s++) x.merge(10, s);
      due(20, x.merge(9, 19));
    });
    promise(6, "Throws `IndexOutOfBoundsException` if there is no such sighting, for either", "both wrong", () -> {
      refuses(INDEX, Towns::lively, x -> x.merge(8, 8));
      refuses(INDEX, Towns::lively, x -> x.merge(-1, -1));
      refuses(INDEX, DoorwayCensus::new, x -> x.merge(0, 0));
    });
    String cannot = "Throws `UnsupportedOperationException` if they cannot be merged";
    promise(6, cannot, "a sighting with itself", () -> {
      refuses(UNSUPPORTED, () -> Towns.seen(1), x -> x.merge(0, 0));
      for (int s = 0; s < 8; s++) { int same = s; refuses(UNSUPPORTED, Towns::lively, x -> x.merge(same, same)); }
    });
    promise(6, cannot, "two of one person, joined over others", () -> {
      Build three = () -> { DoorwayCensus x = Towns.seen(3); x.merge(0, 1); x.merge(1, 2); return x; };
      for (int v = 0; v < 9; v++) { int pair = v; refuses(UNSUPPORTED, three, x -> x.merge(pair / 3, pair % 3)); }
    });
  }

  private static void mergeOneDoor() {
    String cannot = "Throws `UnsupportedOperationException` if they cannot be merged";
    promise(6, cannot, "of unlike doors, not both shared", () -> {
      refuses(UNSUPPORTED, () -> apart(false, false), x -> x.merge(0, 1));
      refuses(UNSUPPORTED, () -> apart(true, false), x -> x.merge(0, 1));
      refuses(UNSUPPORTED, () -> apart(false, true), x -> x.merge(0, 1));
      refuses(UNSUPPORTED, () -> apart(true, false), x -> x.merge(1, 0));
      due(2, apart(true, true).merge(0, 1));
      due(2, apart(true, true).merge(1, 0));
    });
    promise(6, cannot, "these two themselves, whatever others of the persons are", () -> {
      Build three = () -> {
        DoorwayCensus x = new DoorwayCensus();
        x.sight(0, 0, 0, 0); x.sight(0, 1, 0, 0); x.sight(1, 2, 0, 0); x.sight(1, 3, 0, 0);
        x.merge(0, 1); x.merge(2, 3);
        x.share(0, true); x.share(2, true);
        return x;
      };
      refuses(UNSUPPORTED, three, x -> x.merge(1, 2));
      refuses(UNSUPPORTED, three, x -> x.merge(0, 3));
      refuses(UNSUPPORTED, three, x -> x.merge(1, 3));
      due(4, three.make().merge(0, 2));
      due(4, three.make().merge(2, 0));
    });
    promise(6, cannot, "of one door by the persons' other sightings alone", () -> {
      Build three = () -> {
        DoorwayCensus x = apart(true, true);
        x.sight(1, 5, 0, 0);
        x.merge(0, 1);
        x.share(0, false); x.share(1, false);
        return x;
      };
      refuses(UNSUPPORTED, three, x -> x.merge(0, 2));
      due(3, three.make().merge(1, 2));
    });
  }

  private static DoorwayCensus born(int... years) {
    DoorwayCensus x = new DoorwayCensus();
    for (int year : years) x.sight(0, 0, year, 0);
    return x;
  }

  private static void mergeYears() {
    String cannot = "Throws `UnsupportedOperationException` if they cannot be merged";
    promise(6, cannot, "unlike years of birth that were told", () -> {
      refuses(UNSUPPORTED, () -> born(1950, 1951), x -> x.merge(0, 1));
      refuses(UNSUPPORTED, () -> born(2020, 1930), x -> x.merge(0, 1));
      due(2, born(1950, 1950).merge(0, 1));
      due(2, born(1930, 0).merge(0, 1));
      due(2, born(0, 2020).merge(0, 1));
      due(2, born(0, 0).merge(0, 1));
    });
    promise(6, cannot, "unlike years that others of the persons have", () -> {
      Build one = () -> { DoorwayCensus x = born(1950, 0, 1951); x.merge(0, 1); return x; };
      refuses(UNSUPPORTED, one, x -> x.merge(1, 2));
      refuses(UNSUPPORTED, one, x -> x.merge(2, 1));
      Build both = () -> { DoorwayCensus x = born(0, 1950, 0, 1951); x.merge(0, 1); x.merge(2, 3); return x; };
      refuses(UNSUPPORTED, both, x -> x.merge(0, 2));
      refuses(UNSUPPORTED, both, x -> x.merge(2, 0));
    });
    promise(6, cannot, "like years that others of the persons have", () -> {
      DoorwayCensus x = born(0, 1950, 0, 1950);
      x.merge(0, 1); x.merge(2, 3);
      due(4, x.merge(0, 2));
    });
    promise(6, cannot, "a year is the person's no more when the merge is undone", () -> {
      DoorwayCensus x = born(1950, 0, 1951);
      x.merge(0, 1);
      x.undoMerge();
      due(2, x.merge(1, 2));
    });
  }

  /** 0 and 1 are one person, 2 and 3 another one; a shelter, two homes and a fund for them. */
  private static DoorwayCensus pairs() {
    DoorwayCensus x = Towns.seen(4);
    x.addShelter(9, 7, 40); x.addHome(1, 0, 7); x.addHome(1, 0, 7); x.addFund(9, 3);
    x.merge(0, 1); x.merge(2, 3);
    return x;
  }

  private static void mergePlaces() {
    String cannot = "Throws `UnsupportedOperationException` if they cannot be merged";
    promise(6, cannot, "both have asked", () -> {
      Build b = () -> { DoorwayCensus x = pairs(); x.ask(0); x.ask(3); return x; };
      for (int v = 0; v < 4; v++) { int pair = v; refuses(UNSUPPORTED, b, x -> x.merge(pair / 2, 2 + pair % 2)); }
    });
    promise(6, cannot, "both have beds, or one a bed, the other one a question", () -> {
      Build beds = () -> { DoorwayCensus x = pairs(); x.ask(0); x.ask(3); x.giveBeds(); return x; };
      refuses(UNSUPPORTED, beds, x -> x.merge(0, 2));
      Build bed = () -> { DoorwayCensus x = pairs(); x.ask(0); x.giveBeds(); x.ask(3); return x; };
      refuses(UNSUPPORTED, bed, x -> x.merge(0, 2));
      refuses(UNSUPPORTED, bed, x -> x.merge(3, 1));
    });
    promise(6, cannot, "both have homes", () -> {
      Build b = () -> { DoorwayCensus x = pairs(); x.house(0, 1, 0); x.house(1, 2, 0); return x; };
      for (int v = 0; v < 4; v++) { int pair = v; refuses(UNSUPPORTED, b, x -> x.merge(pair / 2, 2 + pair % 2)); }
    });
    promise(6, cannot, "one has a home and the other one has asked", () -> {
      Build b = () -> { DoorwayCensus x = pairs(); x.house(0, 1, 0); x.ask(2); return x; };
      refuses(UNSUPPORTED, b, x -> x.merge(0, 2));
      refuses(UNSUPPORTED, b, x -> x.merge(3, 1));
      Build bed = () -> { DoorwayCensus x = b.make(); x.giveBeds(); return x; };
      refuses(UNSUPPORTED, bed, x -> x.merge(0, 3));
      refuses(UNSUPPORTED, bed, x -> x.merge(2, 0));
    });
    promise(6, cannot, "one has asked, or has a home, and the other one neither", () -> {
      DoorwayCensus x = pairs();
      x.ask(1);
      due(4, x.merge(0, 2));
      DoorwayCensus y = pairs();
      y.house(0, 3, 0);
      due(4, y.merge(0, 2));
      DoorwayCensus z = pairs();
      z.ask(1); z.giveBeds();
      due(4, z.merge(2, 0));
    });
    promise(6, cannot, "asked for this night: the next night none has", () -> {
      DoorwayCensus x = pairs();
      x.ask(0); x.ask(2);
      x.passNights(1);
      due(4, x.merge(0, 2));
    });
  }

  private static void mergeOrder() {
    promise(6, "Throws `UnsupportedOperationException` if they cannot be merged", "first, where there are 20 merges too",
        () -> {
          refuses(UNSUPPORTED, Towns::full, x -> x.merge(0, 20));
          refuses(UNSUPPORTED, Towns::full, x -> x.merge(23, 23));
          refuses(UNSUPPORTED, () -> { DoorwayCensus x = Towns.full(); x.ask(22); x.ask(23); return x; },
              x -> x.merge(22, 23));
        });
    promise(6, "Throws `IndexOutOfBoundsException` if there is no such sighting, for either",
        "first, where there are 20 merges too", () -> {
          refuses(INDEX, Towns::full, x -> x.merge(0, 24));
          refuses(INDEX, Towns::full, x -> x.merge(24, 0));
          refuses(INDEX, Towns::full, x -> x.merge(-1, 21));
        });
    promise(6, "Throws `IndexOutOfBoundsException` if there is no such sighting, for either",
        "first, where the other one could not be merged with any", () -> {
          refuses(INDEX, Towns::lively, x -> x.merge(6, 8));
          refuses(INDEX, Towns::lively, x -> x.merge(8, 8));
        });
  }

  private static void mergeFull() {
    String full = "Throws `IllegalStateException` if there are 20 merges";
    promise(6, full, "the 20th is taken, the 21st is not", () -> {
      DoorwayCensus x = Towns.seen(24);
      for (int s = 1; s <= 19; s++) due(s + 1, x.merge(s, s - 1));
      due(2, x.merge(22, 23));
      refuses(STATE, Towns::full, y -> y.merge(21, 22));
      refuses(STATE, Towns::full, y -> y.merge(0, 21));
      refuses(STATE, Towns::full, y -> y.merge(23, 20));
    });
    promise(6, full, "an undone one makes room for one", () -> {
      DoorwayCensus x = Towns.full();
      due(19, x.undoMerge());
      due(2, x.merge(21, 22));
      due(STATE, answer(x, y -> y.merge(20, 0)));
      due(STATE, answer(x, y -> y.merge(23, 0)));
      due(19, x.undoMerge());
      due(21, x.merge(20, 0));
    });
  }

  private static void undoMerge() {
    promise(7, "Undoes the last merge.", "the last one first, each", () -> {
      DoorwayCensus x = Towns.seen(5);
      x.merge(3, 4); x.merge(1, 2); x.merge(4, 2); x.merge(2, 0);
      int[][] want = {{0, 1, 1, 1, 1}, {0, 1, 1, 3, 3}, {0, 1, 2, 3, 3}, {0, 1, 2, 3, 4}};
      for (int[] persons : want) {
        x.undoMerge();
        for (int s = 0; s < 5; s++) due(persons[s], x.getPerson(s));
      }
    });
    promise(7, "Undoes the last merge.", "all 20", () -> {
      DoorwayCensus x = Towns.full();
      for (int left = 19; left >= 0; left--) {
        x.undoMerge();
        for (int s = 0; s < 24; s++) due(s <= left ? 0 : s, x.getPerson(s));
      }
    });
    promise(7, "Undoes the last merge.", "a sighting told since stays", () -> {
      DoorwayCensus x = Towns.seen(2);
      x.merge(0, 1);
      due(2, x.sight(0, 0, 0, 0));
      x.undoMerge();
      due(2, x.getPerson(2));
      due(3, x.countPersons());
      due(2, x.merge(2, 1));
      due(1, x.getPerson(2));
      x.undoMerge();
      due(2, x.getPerson(2));
    });
    promise(7, "Undoes the last merge.", "a refused merge is none", () -> {
      DoorwayCensus x = Towns.seen(3);
      x.merge(0, 1);
      answer(x, y -> y.merge(1, 0));
      answer(x, y -> y.merge(0, 3));
      due(0, x.undoMerge());
      due(3, x.countPersons());
    });
    promise(7, "Returns how many merges are left.", "19 to 0", () -> {
      DoorwayCensus x = Towns.full();
      for (int left = 19; left >= 0; left--) due(left, x.undoMerge());
    });
    promise(7, "Throws `IllegalStateException` if there is none", "at first, and when all are undone", () -> {
      refuses(STATE, DoorwayCensus::new, x -> x.undoMerge());
      refuses(STATE, () -> Towns.seen(24), x -> x.undoMerge());
      refuses(STATE, () -> { DoorwayCensus x = Towns.lively(); x.undoMerge(); x.undoMerge(); return x; },
          x -> x.undoMerge());
      refuses(STATE, () -> {
        DoorwayCensus x = Towns.full();
        for (int n = 0; n < 20; n++) x.undoMerge();
        return x;
      }, x -> x.undoMerge());
    });
  }

  private static void getPerson() {
    promise(8, "Returns the person of a sighting.", "its own where it is not joined", () -> {
      DoorwayCensus x = Towns.seen(24);
      for (int s = 0; s < 24; s++) due(s, x.getPerson(s));
    });
    promise(8, "`sighting`: the sighting", "the first, the last and the next ones", () ->
        sightings((x, v) -> x.getPerson(v)));
    promise(8, "Returns the lowest sighting of the person.", "whichever is merged with which", () -> {
      DoorwayCensus x = Towns.seen(24);
      x.merge(23, 22);
      due(22, x.getPerson(23));
      x.merge(22, 5);
      due(5, x.getPerson(23));
      due(5, x.getPerson(22));
      x.merge(7, 23);
      due(5, x.getPerson(7));
      x.merge(7, 0);
      for (int s : new int[] {0, 5, 7, 22, 23}) due(0, x.getPerson(s));
      due(1, x.getPerson(1));
    });
    promise(8, "Throws `IndexOutOfBoundsException`", "no such sighting", () ->
        sightings((x, v) -> x.getPerson(v)));
  }

  private static void countPersons() {
    promise(9, "Returns how many persons there are.", "none, and all 24", () -> {
      due(0, new DoorwayCensus().countPersons());
      due(1, Towns.seen(1).countPersons());
      due(24, Towns.seen(24).countPersons());
    });
    promise(9, "Returns how many persons there are.", "a person counts once", () -> {
      due(4, Towns.full().countPersons());
      due(6, Towns.lively().countPersons());
    });
    promise(9, "Returns how many.", "one less by a merge, one more by an undone one", () -> {
      DoorwayCensus x = Towns.seen(24);
      for (int s = 1; s <= 20; s++) { x.merge(0, s); due(24 - s, x.countPersons()); }
      for (int s = 20; s >= 1; s--) { x.undoMerge(); due(25 - s, x.countPersons()); }
    });
  }

  private static void getLikeness() {
    promise(10, "Returns the likeness of two sightings.", "the greatest and the least", () -> {
      DoorwayCensus x = new DoorwayCensus();
      x.sight(0, 99, 2020, 9); x.sight(3, 99, 2020, 9); x.sight(0, 0, 1930, 0);
      due(9, x.getLikeness(0, 1));
      due(-5, x.getLikeness(0, 2));
    });
    promise(10, "`sighting`: the sighting", "the first, the last and the next ones", () ->
        sightings((x, v) -> x.getLikeness(v, 0)));
    promise(10, "`other`: the other one, or the same", "the first, the last and the next ones", () ->
        sightings((x, v) -> x.getLikeness(0, v)));
    promise(10, "`other`: the other one, or the same", "the same", () -> {
      DoorwayCensus x = new DoorwayCensus();
      x.sight(0, 1, 1950, 1); x.sight(0, 1, 0, 1);
      due(9, x.getLikeness(0, 0));
      due(6, x.getLikeness(1, 1));
    });
    promise(10, "Returns the likeness.", "in either order, of one person too", () -> {
      DoorwayCensus x = new DoorwayCensus();
      x.sight(0, 1, 1950, 1); x.sight(0, 1, 0, 2);
      due(3, x.getLikeness(0, 1));
      due(3, x.getLikeness(1, 0));
      x.merge(0, 1);
      due(3, x.getLikeness(0, 1));
    });
    promise(10, "Throws `IndexOutOfBoundsException` if there is no such sighting, for either", "both wrong", () -> {
      refuses(INDEX, DoorwayCensus::new, x -> x.getLikeness(0, 0));
      refuses(INDEX, Towns::lively, x -> x.getLikeness(8, 8));
      refuses(INDEX, Towns::full, x -> x.getLikeness(24, -1));
    });
  }

  private static void mostLike() {
    promise(11, "Returns which sighting of another person is most like one.", "none of the same person", () -> {
      DoorwayCensus x = new DoorwayCensus();
      x.sight(0, 1, 1950, 1); x.sight(0, 1, 1950, 1); x.sight(0, 2, 1951, 2);
      due(1, x.mostLike(0));
      x.merge(0, 1);
      due(2, x.mostLike(0));
      due(2, x.mostLike(1));
    });
    promise(11, "Returns which sighting of another person is most like one.", "by the one told, not by its person", () -> {
      DoorwayCensus x = new DoorwayCensus();
      x.sight(0, 1, 0, 1); x.sight(0, 2, 0, 2); x.sight(0, 1, 0, 3); x.sight(0, 2, 0, 4);
      x.merge(0, 1);
      due(2, x.mostLike(0));
      due(3, x.mostLike(1));
    });
    promise(11, "Returns which sighting of another person is most like one.", "the least likeness is one", () -> {
      DoorwayCensus x = new DoorwayCensus();
      x.sight(0, 1, 1950, 1); x.sight(0, 2, 1951, 2);
      due(1, x.mostLike(0));
      due(0, x.mostLike(1));
    });
    promise(11, "`sighting`: the sighting", "the first, the last and the next ones", () ->
        sightings((x, v) -> x.mostLike(v)));
    promise(11, "Returns the sighting, of like ones the lowest.", "the sighting, not its person", () -> {
      DoorwayCensus x = new DoorwayCensus();
      x.sight(0, 9, 0, 9); x.sight(0, 1, 0, 1); x.sight(0, 1, 0, 1);
      x.merge(0, 1);
      due(1, x.mostLike(2));
    });
    promise(11, "Returns the sighting, of like ones the lowest.", "of 23 like ones", () -> {
      DoorwayCensus x = new DoorwayCensus();
      for (int s = 0; s < 24; s++) x.sight(s % 4, 1, 0, 1);
      due(1, x.mostLike(0));
      for (int s = 1; s < 24; s++) due(0, x.mostLike(s));
    });
    promise(11, "Returns the sighting, of like ones the lowest.", "a more like one behind it, the last of all", () -> {
      DoorwayCensus x = Towns.seen(23);
      x.sight(0, 0, 0, 0);
      due(23, x.mostLike(0));
      due(0, x.mostLike(23));
    });
    promise(11, "Throws `IndexOutOfBoundsException`", "no such sighting", () -> {
      refuses(INDEX, DoorwayCensus::new, x -> x.mostLike(0));
      refuses(INDEX, () -> Towns.seen(1), x -> x.mostLike(1));
      refuses(INDEX, () -> Towns.seen(1), x -> x.mostLike(-1));
    });
    promise(11, "Throws `NoSuchElementException` if there is no other person", "one sighting, or all of one person", () -> {
      refuses(ELEMENT, () -> Towns.seen(1), x -> x.mostLike(0));
      refuses(ELEMENT, Towns::lonely, x -> x.mostLike(0));
      refuses(ELEMENT, Towns::lonely, x -> x.mostLike(1));
      Build joined = () -> {
        DoorwayCensus x = Towns.seen(21);
        for (int s = 1; s < 21; s++) x.merge(0, s);
        return x;
      };
      for (int s : new int[] {0, 1, 20}) refuses(ELEMENT, joined, x -> x.mostLike(s));
      due(0, Towns.seen(2).mostLike(1));
    });
  }

  private static void getScore() {
    promise(12, "Returns the score of a person.", "0 at first", () -> due(0, Towns.seen(1).getScore(0)));
    promise(12, "`sighting`: a sighting of the person", "the first, the last and the next ones", () ->
        sightings((x, v) -> x.getScore(v)));
    promise(12, "`sighting`: a sighting of the person", "any of them", () -> {
      DoorwayCensus x = Towns.full();
      x.setHarm(20, 5, 7);
      for (int s = 0; s <= 20; s++) due(12, x.getScore(s));
      due(0, x.getScore(21));
    });
    promise(12, "Returns the score.", "the greatest there can be", () -> {
      DoorwayCensus x = Towns.seen(1);
      x.setHarm(0, 9, 60);
      due(69, x.getScore(0));
      x.setWeights(99, 99);
      due(6831, x.getScore(0));
      x.setWeights(0, 0);
      due(0, x.getScore(0));
    });
    promise(12, "Throws `IndexOutOfBoundsException`", "no such sighting", () ->
        sightings((x, v) -> x.getScore(v)));
  }

  private static void setWeights() {
    promise(13, "Sets the weights of the score.", "both, for all", () -> {
      DoorwayCensus x = Towns.seen(2);
      x.setHarm(0, 3, 0); x.setHarm(1, 0, 5);
      x.setWeights(10, 20);
      due(30, x.getScore(0));
      due(100, x.getScore(1));
    });
    promise(13, "`harm`: 0 to 99", "the ends and the next ones", () ->
        range(0, 99, Towns::lively, (x, v) -> { x.setWeights(v, 0); return x.getScore(7); }, v -> 9 * v));
    promise(13, "`years`: 0 to 99", "the ends and the next ones", () ->
        range(0, 99, Towns::lively, (x, v) -> { x.setWeights(0, v); return x.getScore(7); }, v -> 60 * v));
    promise(13, "Returns the weight of harm before.", "1 at first, then each", () -> {
      DoorwayCensus x = new DoorwayCensus();
      int before = 1;
      for (int w = 99; w >= 0; w--) { due(before, x.setWeights(w, 99 - w)); before = w; }
    });
    promise(13, "Throws `IllegalArgumentException` if a number is out of range", "each alone, the other at its ends", () -> {
      int[][] bad = {{-1, 0}, {-1, 99}, {100, 0}, {100, 99}, {0, -1}, {99, -1}, {0, 100}, {99, 100}};
      for (int[] b : bad) refuses(ARGUMENT, Towns::lively, x -> x.setWeights(b[0], b[1]));
    });
  }
}
