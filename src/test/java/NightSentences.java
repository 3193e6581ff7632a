/** Promises 14 to 27: shelters, bans, the cold, the queue and the nights. */
final class NightSentences extends Checks {
  static void run() {
    addShelter(); ban(); banRefused(); liftBan(); takes(); setCold(); isOpen(); ask(); askRefused(); giveBeds();
    giveBedsByOrder(); bedOf(); freeBeds(); notCome(); notComeOrder(); mostBeds(); mostBedsAnew(); passNights();
    passNightsRefused(); nightsOutside();
  }

  private static void addShelter() {
    promise(14, "Adds a shelter.", "it can be asked for", () -> {
      DoorwayCensus x = Towns.seen(1);
      due(INDEX, answer(x, y -> y.isOpen(0)));
      x.addShelter(1, 0, 0);
      due(true, x.isOpen(0));
      due(INDEX, answer(x, y -> y.isOpen(1)));
    });
    promise(14, "`beds`: 1 to 9", "the ends and the next ones", () ->
        range(1, 9, Towns::lively, (x, v) -> x.freeBeds(x.addShelter(v, 0, 0)), v -> v));
    promise(14, "`beds`: 1 to 9", "so many get one", () -> {
      for (int beds = 1; beds <= 9; beds++) {
        DoorwayCensus x = Towns.seen(10);
        x.addShelter(beds, 0, 0);
        for (int s = 0; s < 10; s++) x.ask(s);
        due(beds, x.giveBeds());
        due(0, x.freeBeds(0));
      }
    });
    promise(14, "`takes`: 0 to 7, as bits", "the ends and the next ones", () ->
        range(0, 7, Towns::lively, (x, v) -> x.addShelter(1, v, 0), v -> 3));
    promise(14, "`takes`: 0 to 7, as bits", "each set of bits with each set of needs", () -> {
      for (int takes = 0; takes < 8; takes++) for (int needs = 0; needs < 8; needs++) {
        DoorwayCensus x = Towns.seen(1);
        x.addShelter(1, takes, 0);
        x.setNeeds(0, needs);
        due((needs | takes) == takes, x.takes(0, 0));
      }
    });
    promise(14, "`degrees`: -30 to 40", "the ends and the next ones", () ->
        range(-30, 40, Towns::lively, (x, v) -> x.addShelter(1, 0, v), v -> 3));
    promise(14, "`degrees`: -30 to 40", "each opens it up to that", () -> {
      for (int degrees = -30; degrees <= 40; degrees++) {
        DoorwayCensus x = new DoorwayCensus();
        x.addShelter(1, 0, degrees);
        x.setCold(degrees);
        due(true, x.isOpen(0));
        x.setCold(degrees + 1);
        due(false, x.isOpen(0));
        x.setCold(degrees - 1);
        due(true, x.isOpen(0));
      }
    });
    promise(14, "Returns its number.", "0 to 4", () -> {
      DoorwayCensus x = new DoorwayCensus();
      for (int h = 0; h < 5; h++) due(h, x.addShelter(9, 7, 40));
      for (int h = 0; h < 5; h++) due(9, x.freeBeds(h));
    });
    promise(14, "Throws `IllegalArgumentException` if a number is out of range", "each alone, the others at their ends", () -> {
      int[][] bad = {{0, 7, 40}, {-1, 0, 0}, {10, 0, -30}, {1, -1, -30}, {9, 8, 40}, {1, 0, -31}, {9, 7, 41}};
      for (int[] b : bad) {
        refuses(ARGUMENT, DoorwayCensus::new, x -> x.addShelter(b[0], b[1], b[2]));
        refuses(ARGUMENT, Towns::lively, x -> x.addShelter(b[0], b[1], b[2]));
      }
    });
    promise(14, "Throws `IllegalStateException` if there were 5", "the fifth is taken, the sixth is not", () -> {
      due(3, Towns.lively().addShelter(1, 0, 0));
      refuses(STATE, Towns::full, x -> x.addShelter(1, 0, -30));
      refuses(STATE, Towns::full, x -> x.addShelter(9, 7, 40));
    });
    promise(14, "Throws `IllegalArgumentException` if a number is out of range", "first, where there were 5 too", () -> {
      int[][] bad = {{0, 0, 0}, {10, 0, 0}, {1, -1, 0}, {1, 8, 0}, {1, 0, -31}, {1, 0, 41}};
      for (int[] b : bad) refuses(ARGUMENT, Towns::full, x -> x.addShelter(b[0], b[1], b[2]));
    });
  }

  private static void ban() {
    String all = "Bans a person from a shelter; a bed of this night stays.";
    promise(15, all, "from that one alone, that person alone", () -> {
      DoorwayCensus x = Towns.full();
      x.ban(4, 20, 0);
      for (int h = 0; h < 5; h++) for (int s = 0; s < 24; s++) due(h < 4 || s > 20, x.takes(h, s));
    });
    promise(15, all, "a bed stays", () -> {
      DoorwayCensus x = Towns.seen(1);
      x.addShelter(1, 7, 40);
      x.ask(0); x.giveBeds();
      x.ban(0, 0, 365);
      due(0, x.bedOf(0));
      due(0, x.freeBeds(0));
      due(1, x.countIn('b'));
      x.passNights(1);
      due(0, x.nightsOutside(0));
    });
    promise(15, all, "who asked gets none there", () -> {
      DoorwayCensus x = Towns.seen(1);
      x.addShelter(1, 7, 40);
      x.ask(0);
      x.ban(0, 0, 0);
      due(0, x.mostBeds());
      due(0, x.giveBeds());
    });
    promise(15, "`shelter`: the shelter", "the first, the last and the next ones", () ->
        shelters((x, v) -> x.ban(v, 0, 0)));
    promise(15, "`sighting`: a sighting of the person", "the first, the last and the next ones", () ->
        sightings((x, v) -> x.ban(0, v, 0)));
    promise(15, "`sighting`: a sighting of the person", "any of them", () -> {
      for (int s = 0; s <= 20; s++) {
        DoorwayCensus x = Towns.full();
        x.ban(0, s, 0);
        due(false, x.takes(0, 20 - s));
      }
    });
    promise(15, "`days`: 0 to 365, 0 being this day alone", "the ends and the next ones", () ->
        range(0, 365, Towns::lively, (x, v) -> x.ban(2, 0, v), v -> 60 + v));
    promise(15, "`days`: 0 to 365, 0 being this day alone", "0 is this day alone", () -> {
      for (int day : new int[] {0, 1, 60}) {
        DoorwayCensus x = Towns.on(day);
        x.ban(0, 0, 0);
        due(false, x.takes(0, 0));
        x.passNights(1);
        due(true, x.takes(0, 0));
      }
    });
    promise(15, "`days`: 0 to 365, 0 being this day alone", "up to the last day, and not behind it", () -> {
      for (int days : new int[] {1, 2, 59, 364, 365}) for (int day : new int[] {0, 7}) {
        DoorwayCensus x = Towns.on(day);
        x.ban(0, 0, days);
        Towns.go(x, days - 1);
        due(false, x.takes(0, 0));
        x.passNights(1);
        due(false, x.takes(0, 0));
        x.passNights(1);
        due(true, x.takes(0, 0));
      }
    });
    promise(15, "Returns the last day.", "today and so many days", () -> {
      due(0, Towns.on(0).ban(0, 0, 0));
      due(365, Towns.on(0).ban(0, 0, 365));
      due(8, Towns.on(7).ban(0, 0, 1));
      due(2000, Towns.on(2000).ban(0, 0, 0));
      due(2365, Towns.on(2000).ban(0, 0, 365));
    });
    promise(15, "Returns the last day.", "of the ban that is told, a longer one aside", () -> {
      DoorwayCensus x = Towns.on(5);
      due(15, x.ban(0, 0, 10));
      due(7, x.ban(0, 0, 2));
      due(16, x.ban(0, 0, 11));
    });
  }

  private static void banRefused() {
    promise(15, "Throws `IndexOutOfBoundsException` if there is no such shelter, or sighting", "either, or both", () -> {
      refuses(INDEX, DoorwayCensus::new, x -> x.ban(0, 0, 0));
      refuses(INDEX, () -> Towns.seen(1), x -> x.ban(0, 0, 0));
      refuses(INDEX, () -> { DoorwayCensus x = new DoorwayCensus(); x.addShelter(1, 7, 40); return x; }, x -> x.ban(0, 0, 0));
      refuses(INDEX, Towns::lively, x -> x.ban(3, 8, 0));
    });
    promise(15, "Throws `IllegalArgumentException` if a number is out of range", "next to the ends", () -> {
      refuses(ARGUMENT, Towns::lively, x -> x.ban(2, 7, -1));
      refuses(ARGUMENT, Towns::lively, x -> x.ban(0, 0, 366));
      refuses(ARGUMENT, () -> Towns.on(2000), x -> x.ban(0, 0, BIG));
    });
    promise(15, "Throws `IndexOutOfBoundsException` if there is no such shelter, or sighting", "first, with wrong days too", () -> {
      for (int days : new int[] {-1, 366}) {
        refuses(INDEX, Towns::lively, x -> x.ban(3, 0, days));
        refuses(INDEX, Towns::lively, x -> x.ban(0, 8, days));
      }
    });
  }

  private static void liftBan() {
    promise(16, "Ends all bans of a person from a shelter.", "of all the person's sightings, of all days", () -> {
      DoorwayCensus x = Towns.full();
      for (int s = 0; s <= 20; s++) x.ban(0, s, s);
      x.ban(0, 3, 365);
      x.liftBan(0, 10);
      due(true, x.takes(0, 0));
      for (int n = 0; n < 20; n++) x.undoMerge();
      for (int s = 0; s <= 20; s++) due(true, x.takes(0, s));
    });
    promise(16, "Ends all bans of a person from a shelter.", "from that one alone, of that person alone", () -> {
      DoorwayCensus x = Towns.full();
      x.ban(0, 0, 5); x.ban(1, 0, 5); x.ban(0, 21, 5);
      due(true, x.liftBan(0, 0));
      due(true, x.takes(0, 0));
      due(false, x.takes(1, 0));
      due(false, x.takes(0, 21));
    });
    promise(16, "Ends all bans of a person from a shelter.", "not those that an undone merge has parted", () -> {
      DoorwayCensus x = Towns.full();
      x.ban(0, 20, 5); x.ban(0, 0, 5);
      x.undoMerge();
      x.liftBan(0, 0);
      due(true, x.takes(0, 19));
      due(false, x.takes(0, 20));
    });
    promise(16, "`shelter`: the shelter", "the first, the last and the next ones", () ->
        shelters((x, v) -> x.liftBan(v, 0)));
    promise(16, "`sighting`: a sighting of the person", "the first, the last and the next ones", () ->
        sightings((x, v) -> x.liftBan(0, v)));
    promise(16, "`sighting`: a sighting of the person", "any of them", () -> {
      for (int s = 0; s <= 20; s++) {
        DoorwayCensus x = Towns.full();
        x.ban(0, 20 - s, 0);
        due(true, x.liftBan(0, s));
      }
    });
    promise(16, "Returns whether there was one that holds today.", "none, one, none again", () -> {
      DoorwayCensus x = Towns.on(3);
      due(false, x.liftBan(0, 0));
      x.ban(0, 0, 0);
      due(true, x.liftBan(0, 0));
      due(false, x.liftBan(0, 0));
    });
    promise(16, "Returns whether there was one that holds today.", "on the last day, and behind it", () -> {
      for (int day = 0; day < 4; day++) {
        DoorwayCensus x = Towns.on(0);
        x.ban(0, 0, 2);
        Towns.go(x, day);
        due(day <= 2, x.liftBan(0, 0));
      }
    });
    promise(16, "Returns whether there was one that holds today.", "from another shelter, of another person", () -> {
      DoorwayCensus x = Towns.full();
      x.ban(1, 0, 5); x.ban(0, 21, 5);
      due(false, x.liftBan(0, 0));
    });
    promise(16, "Throws `IndexOutOfBoundsException` if there is no such shelter, or sighting", "either, or both", () -> {
      refuses(INDEX, DoorwayCensus::new, x -> x.liftBan(0, 0));
      refuses(INDEX, () -> Towns.seen(1), x -> x.liftBan(0, 0));
      refuses(INDEX, Towns::lively, x -> x.liftBan(3, 4));
      refuses(INDEX, Towns::lively, x -> x.liftBan(0, 8));
      refuses(INDEX, Towns::full, x -> x.liftBan(5, 24));
    });
  }

  private static void takes() {
    promise(17, "Returns whether a shelter takes a person, open or not.", "open or not", () -> {
      DoorwayCensus x = Towns.on(0);
      x.setCold(45);
      due(false, x.isOpen(0));
      due(true, x.takes(0, 0));
      x.ban(0, 0, 0);
      due(false, x.takes(0, 0));
      x.setCold(-40);
      due(false, x.takes(0, 0));
    });
    promise(17, "Returns whether a shelter takes a person, open or not.", "full or not", () -> {
      DoorwayCensus x = Towns.on(0);
      x.ask(0); x.giveBeds();
      due(0, x.freeBeds(0));
      due(true, x.takes(0, 1));
    });
    promise(17, "`shelter`: the shelter", "the first, the last and the next ones", () ->
        shelters((x, v) -> x.takes(v, 0)));
    promise(17, "`sighting`: a sighting of the person", "the first, the last and the next ones", () ->
        sightings((x, v) -> x.takes(0, v)));
    promise(17, "`sighting`: a sighting of the person", "any of them", () -> {
      DoorwayCensus x = Towns.seen(3);
      x.addShelter(1, 3, 0);
      x.merge(0, 2);
      x.setNeeds(2, 4);
      due(false, x.takes(0, 0));
      due(true, x.takes(0, 1));
      due(false, x.takes(0, 2));
    });
    promise(17, "Returns true if so.", "needs and bans both", () -> {
      DoorwayCensus x = Towns.seen(1);
      x.addShelter(1, 1, 0);
      x.setNeeds(0, 1);
      due(true, x.takes(0, 0));
      x.setNeeds(0, 3);
      due(false, x.takes(0, 0));
      x.setNeeds(0, 0);
      x.ban(0, 0, 0);
      due(false, x.takes(0, 0));
    });
    promise(17, "Throws `IndexOutOfBoundsException` if there is no such shelter, or sighting", "either, or both", () -> {
      refuses(INDEX, DoorwayCensus::new, x -> x.takes(0, 0));
      refuses(INDEX, Towns::lively, x -> x.takes(3, 8));
      refuses(INDEX, Towns::full, x -> x.takes(5, 0));
      refuses(INDEX, Towns::full, x -> x.takes(4, 24));
    });
  }

  private static void setCold() {
    promise(18, "Tells the cold of this night; beds that were given stay.", "beds stay", () -> {
      DoorwayCensus x = Towns.on(0);
      x.ask(0); x.giveBeds();
      x.setCold(45);
      due(false, x.isOpen(0));
      due(0, x.bedOf(0));
      due(0, x.freeBeds(0));
      due(1, x.countIn('b'));
      x.passNights(1);
      due(0, x.nightsOutside(0));
      due(1, x.nightsOutside(1));
    });
    promise(18, "Tells the cold of this night; beds that were given stay.", "none is given in a closed one", () -> {
      DoorwayCensus x = Towns.on(0);
      x.setCold(41);
      x.ask(0);
      due(0, x.giveBeds());
      x.setCold(40);
      due(1, x.giveBeds());
    });
    promise(18, "`degrees`: -40 to 45", "the ends and the next ones", () ->
        range(-40, 45, Towns::lively, (x, v) -> { x.setCold(v); return x.setCold(0); }, v -> v));
    promise(18, "Returns that before.", "0 at first, then each", () -> {
      DoorwayCensus x = new DoorwayCensus();
      int before = 0;
      for (int cold = 45; cold >= -40; cold--) { due(before, x.setCold(cold)); before = cold; }
    });
    promise(18, "Returns that before.", "the next night too, as nothing else is told", () -> {
      DoorwayCensus x = new DoorwayCensus();
      x.setCold(-7);
      x.passNights(60);
      due(-7, x.setCold(0));
    });
    promise(18, "Throws `IllegalArgumentException` if a number is out of range", "next to the ends", () -> {
      refuses(ARGUMENT, Towns::lively, x -> x.setCold(-41));
      refuses(ARGUMENT, Towns::lively, x -> x.setCold(46));
      refuses(ARGUMENT, DoorwayCensus::new, x -> x.setCold(46));
    });
  }

  private static void isOpen() {
    promise(19, "Returns whether a shelter is open in this night.", "by the cold of this night", () -> {
      DoorwayCensus x = new DoorwayCensus();
      x.addShelter(1, 0, 0); x.addShelter(1, 0, -1); x.addShelter(1, 0, 1);
      due(true, x.isOpen(0));
      due(false, x.isOpen(1));
      due(true, x.isOpen(2));
    });
    promise(19, "`shelter`: the shelter", "the first, the last and the next ones", () -> shelters((x, v) -> x.isOpen(v)));
    promise(19, "Returns true if so.", "full or not, at the ends", () -> {
      DoorwayCensus x = Towns.on(0);
      x.addShelter(1, 0, -30);
      x.ask(0); x.giveBeds();
      due(true, x.isOpen(0));
      x.setCold(45);
      due(false, x.isOpen(0));
      x.setCold(-40);
      due(true, x.isOpen(1));
      x.setCold(-29);
      due(false, x.isOpen(1));
    });
    promise(19, "Throws `IndexOutOfBoundsException` if there is no such shelter", "none, 3, 5", () -> {
      refuses(INDEX, DoorwayCensus::new, x -> x.isOpen(0));
      refuses(INDEX, Towns::lively, x -> x.isOpen(3));
      refuses(INDEX, Towns::full, x -> x.isOpen(5));
      refuses(INDEX, Towns::full, x -> x.isOpen(-1));
    });
  }

  private static void ask() {
    promise(20, "Lets a person ask for this night.", "for this night alone", () -> {
      DoorwayCensus x = Towns.on(0);
      x.ask(0);
      due(1, x.mostBeds());
      x.passNights(1);
      due(0, x.mostBeds());
      due(1, x.ask(0));
    });
    promise(20, "`sighting`: a sighting of the person", "the first, the last and the next ones", () ->
        sightings((x, v) -> x.ask(v)));
    promise(20, "`sighting`: a sighting of the person", "any of them", () -> {
      for (int s = 0; s <= 20; s++) {
        DoorwayCensus x = Towns.full();
        due(1, x.ask(s));
        due(UNSUPPORTED, answer(x, y -> y.ask(0)));
        due(UNSUPPORTED, answer(x, y -> y.ask(20)));
      }
    });
    promise(20, "Returns how many persons have asked.", "1 to 24", () -> {
      DoorwayCensus x = Towns.seen(24);
      for (int s = 0; s < 24; s++) due(s + 1, x.ask(s));
    });
    promise(20, "Returns how many persons have asked.", "those with beds too, a person once", () -> {
      DoorwayCensus x = Towns.full();
      due(1, x.ask(20));
      due(2, x.ask(21));
      due(2, x.giveBeds());
      due(3, x.ask(22));
    });
    promise(20, "Returns how many persons have asked.", "less one who did not come, and one who got a home", () -> {
      DoorwayCensus x = Towns.full();
      x.ask(0); x.ask(21); x.ask(22);
      x.giveBeds();
      x.notCome(21);
      x.house(0, 22, 0);
      due(2, x.ask(23));
    });
  }

  private static void askRefused() {
    promise(20, "Throws `IndexOutOfBoundsException`", "no such sighting", () -> {
      refuses(INDEX, DoorwayCensus::new, x -> x.ask(0));
      refuses(INDEX, Towns::lively, x -> x.ask(8));
      refuses(INDEX, Towns::full, x -> x.ask(24));
      refuses(INDEX, Towns::full, x -> x.ask(-1));
    });
    String cannot = "Throws `UnsupportedOperationException` if the person has asked, or has a home";
    promise(20, cannot, "has asked, with a bed or not", () -> {
      Build asked = () -> { DoorwayCensus x = Towns.full(); x.ask(3); return x; };
      for (int s : new int[] {0, 3, 20}) refuses(UNSUPPORTED, asked, x -> x.ask(s));
      Build bed = () -> { DoorwayCensus x = asked.make(); x.giveBeds(); return x; };
      for (int s : new int[] {0, 3, 20}) refuses(UNSUPPORTED, bed, x -> x.ask(s));
      due(2, bed.make().ask(21));
    });
    promise(20, cannot, "has a home", () -> {
      Build home = () -> { DoorwayCensus x = Towns.full(); x.house(0, 3, 0); return x; };
      for (int s : new int[] {0, 3, 20}) refuses(UNSUPPORTED, home, x -> x.ask(s));
      due(1, home.make().ask(21));
    });
    promise(20, cannot, "not any more, when the home is lost", () -> {
      DoorwayCensus x = Towns.full();
      x.house(5, 3, 0);
      x.passNights(60);
      due(UNSUPPORTED, answer(x, y -> y.ask(3)));
      x.passNights(30);
      due(1, x.ask(3));
    });
  }

  private static void giveBeds() {
    promise(21, "Gives beds.", "to those who asked alone", () -> {
      DoorwayCensus x = Towns.seen(3);
      x.addShelter(9, 7, 40);
      x.ask(1);
      due(1, x.giveBeds());
      due(ELEMENT, answer(x, y -> y.bedOf(0)));
      due(0, x.bedOf(1));
    });
    promise(21, "Returns how many persons got one now.", "none: nobody asked, none there, none open, none free", () -> {
      due(0, new DoorwayCensus().giveBeds());
      due(0, Towns.full().giveBeds());
      DoorwayCensus x = Towns.seen(2);
      x.ask(0);
      due(0, x.giveBeds());
      x.addShelter(1, 7, -1);
      due(0, x.giveBeds());
      x.addShelter(1, 7, 0);
      due(1, x.giveBeds());
      x.ask(1);
      due(0, x.giveBeds());
    });
    promise(21, "Returns how many persons got one now.", "not those who had one", () -> {
      DoorwayCensus x = Towns.full();
      x.ask(0); x.ask(21);
      due(2, x.giveBeds());
      due(0, x.giveBeds());
      x.ask(22);
      due(1, x.giveBeds());
    });
    promise(21, "Returns how many persons got one now.", "all 24, and all beds of 24 for 9", () -> {
      DoorwayCensus x = Towns.seen(24);
      for (int h = 0; h < 3; h++) x.addShelter(8, 0, 40);
      for (int s = 0; s < 24; s++) x.ask(s);
      due(24, x.giveBeds());
      for (int h = 0; h < 3; h++) due(0, x.freeBeds(h));
      DoorwayCensus y = Towns.seen(24);
      y.addShelter(9, 0, 40);
      for (int s = 0; s < 24; s++) y.ask(s);
      due(9, y.giveBeds());
      for (int s = 0; s < 24; s++) due(s < 9 ? 0 : ELEMENT, bed(y, s));
    });
  }

  private static Object bed(DoorwayCensus x, int s) { return answer(x, y -> y.bedOf(s)); }

  private static void giveBedsByOrder() {
    String order = "Gives beds.";
    promise(21, order, "by the greatest score, whoever asked first", () -> {
      DoorwayCensus x = Towns.seen(3);
      x.addShelter(2, 7, 40);
      x.setHarm(1, 0, 1); x.setHarm(2, 9, 60);
      for (int s = 0; s < 3; s++) x.ask(s);
      due(2, x.giveBeds());
      due(ELEMENT, bed(x, 0));
      due(0, bed(x, 1));
      due(0, bed(x, 2));
    });
    promise(21, order, "by the scores as weights make them, 0 too", () -> {
      DoorwayCensus x = Towns.seen(2);
      x.addShelter(1, 7, 40);
      x.setHarm(0, 1, 60); x.setHarm(1, 2, 0);
      x.setWeights(99, 0);
      x.ask(0); x.ask(1);
      x.giveBeds();
      due(0, bed(x, 1));
      x.passNights(1);
      x.setWeights(0, 0);
      x.ask(1); x.ask(0);
      x.giveBeds();
      due(0, bed(x, 0));
      due(ELEMENT, bed(x, 1));
    });
    promise(21, order, "of like scores the lowest person", () -> {
      DoorwayCensus x = Towns.seen(4);
      x.addShelter(1, 7, 40);
      x.merge(3, 0);
      x.ask(1); x.ask(3); x.ask(2);
      x.giveBeds();
      due(0, bed(x, 3));
      due(ELEMENT, bed(x, 1));
    });
    promise(21, order, "most free beds, counted anew for each", () -> {
      DoorwayCensus x = Towns.seen(6);
      x.addShelter(1, 7, 40); x.addShelter(3, 7, 40); x.addShelter(2, 7, 40);
      for (int s = 0; s < 6; s++) x.ask(s);
      due(6, x.giveBeds());
      int[] want = {1, 1, 2, 0, 1, 2};
      for (int s = 0; s < 6; s++) due(want[s], bed(x, s));
    });
    promise(21, order, "of like ones the lowest shelter", () -> {
      DoorwayCensus x = Towns.seen(1);
      for (int h = 0; h < 5; h++) x.addShelter(9, 7, 40);
      x.ask(0);
      x.giveBeds();
      due(0, bed(x, 0));
    });
    promise(21, order, "one that is closed, bans, or does not take has none to give", () -> {
      DoorwayCensus x = Towns.seen(1);
      x.addShelter(9, 7, -1); x.addShelter(8, 3, 40); x.addShelter(7, 7, 40); x.addShelter(1, 4, 0);
      x.setNeeds(0, 4);
      x.ban(2, 0, 0);
      x.ask(0);
      due(1, x.giveBeds());
      due(3, bed(x, 0));
    });
    promise(21, order, "who is taken nowhere does not stop those behind", () -> {
      DoorwayCensus x = Towns.seen(2);
      x.addShelter(1, 0, 40);
      x.setNeeds(0, 1); x.setHarm(0, 9, 60);
      x.ask(0); x.ask(1);
      due(1, x.giveBeds());
      due(0, bed(x, 1));
    });
    promise(21, order, "who has a bed keeps it, whoever comes later", () -> {
      DoorwayCensus x = Towns.on(0);
      x.ask(0);
      x.giveBeds();
      x.setHarm(1, 9, 60);
      x.ask(1);
      due(0, x.giveBeds());
      due(0, bed(x, 0));
    });
  }

  private static void bedOf() {
    promise(22, "Returns in which shelter a person has a bed.", "the first and the last", () -> {
      for (int h = 0; h < 5; h++) {
        DoorwayCensus x = Towns.full();
        for (int other = 0; other < 5; other++) if (other != h) x.ban(other, 0, 0);
        x.ask(0);
        x.giveBeds();
        due(h, x.bedOf(0));
      }
    });
    promise(22, "`sighting`: a sighting of the person", "the first, the last and the next ones", () ->
        sightings((x, v) -> x.bedOf(v)));
    promise(22, "`sighting`: a sighting of the person", "any of them", () -> {
      DoorwayCensus x = Towns.full();
      x.ask(20);
      x.giveBeds();
      for (int s = 0; s <= 20; s++) due(4, x.bedOf(s));
    });
    promise(22, "Returns the shelter.", "as long as the night lasts", () -> {
      DoorwayCensus x = Towns.on(0);
      x.ask(1);
      x.giveBeds();
      due(0, x.bedOf(1));
      x.passNights(1);
      due(ELEMENT, bed(x, 1));
    });
    promise(22, "Throws `IndexOutOfBoundsException`", "no such sighting", () -> sightings((x, v) -> x.bedOf(v)));
    promise(22, "Throws `NoSuchElementException` if the person has none", "asked or not, not come, with a home", () -> {
      refuses(ELEMENT, () -> Towns.seen(1), x -> x.bedOf(0));
      refuses(ELEMENT, () -> { DoorwayCensus x = Towns.on(0); x.ask(0); return x; }, x -> x.bedOf(0));
      Build bed = () -> { DoorwayCensus x = Towns.on(0); x.ask(0); x.giveBeds(); return x; };
      refuses(ELEMENT, bed, x -> x.bedOf(1));
      refuses(ELEMENT, () -> { DoorwayCensus x = bed.make(); x.notCome(0); return x; }, x -> x.bedOf(0));
      refuses(ELEMENT, () -> { DoorwayCensus x = bed.make(); x.house(0, 0, 0); return x; }, x -> x.bedOf(0));
    });
  }

  private static void freeBeds() {
    promise(23, "Returns how many beds of a shelter are free.", "all to none", () -> {
      DoorwayCensus x = Towns.seen(10);
      x.addShelter(9, 7, 40);
      for (int s = 0; s < 10; s++) {
        due(9 - s, x.freeBeds(0));
        x.ask(s);
        due(s < 9 ? 1 : 0, x.giveBeds());
      }
      due(0, x.freeBeds(0));
    });
    promise(23, "`shelter`: the shelter", "the first, the last and the next ones", () -> shelters((x, v) -> x.freeBeds(v)));
    promise(23, "Returns how many.", "of that one, open or not", () -> {
      DoorwayCensus x = Towns.full();
      x.ask(0);
      x.giveBeds();
      x.setCold(45);
      int[] want = {1, 2, 3, 4, 4};
      for (int h = 0; h < 5; h++) due(want[h], x.freeBeds(h));
    });
    promise(23, "Returns how many.", "free again the next day", () -> {
      DoorwayCensus x = Towns.on(0);
      x.ask(0);
      x.giveBeds();
      due(0, x.freeBeds(0));
      x.passNights(1);
      due(1, x.freeBeds(0));
    });
    promise(23, "Throws `IndexOutOfBoundsException` if there is no such shelter", "none, 3, 5", () -> {
      refuses(INDEX, DoorwayCensus::new, x -> x.freeBeds(0));
      refuses(INDEX, Towns::lively, x -> x.freeBeds(3));
      refuses(INDEX, Towns::full, x -> x.freeBeds(5));
      refuses(INDEX, Towns::full, x -> x.freeBeds(-1));
    });
  }

  private static void notCome() {
    String all = "Tells that a person did not come for the bed.";
    promise(24, all, "the bed is free again, and the person has not asked any more", () -> {
      DoorwayCensus x = Towns.on(0);
      x.ask(0);
      x.giveBeds();
      due(-1, x.notCome(0));
      due(1, x.freeBeds(0));
      due(0, x.mostBeds());
      due(0, x.giveBeds());
      due(ELEMENT, bed(x, 0));
      due(1, x.ask(0));
      due(1, x.giveBeds());
    });
    promise(24, all, "the person is outside that night", () -> {
      DoorwayCensus x = Towns.on(0);
      x.ask(0);
      x.giveBeds();
      x.notCome(0);
      x.passNights(1);
      due(1, x.nightsOutside(0));
    });
    promise(24, "`sighting`: a sighting of the person", "the first, the last and the next ones", () ->
        sightings((x, v) -> x.notCome(v)));
    promise(24, "`sighting`: a sighting of the person", "any of them", () -> {
      for (int s = 0; s <= 20; s++) {
        DoorwayCensus x = Towns.full();
        x.ask(20 - s);
        x.giveBeds();
        due(-1, x.notCome(s));
        due(ELEMENT, bed(x, 20 - s));
      }
    });
    promise(24, "Returns the person who gets it, -1 for nobody.", "the lowest sighting of the person, 0 too", () -> {
      DoorwayCensus x = Towns.seen(4);
      x.addShelter(1, 7, 40);
      x.merge(3, 1);
      x.ask(2);
      x.giveBeds();
      x.ask(3);
      due(1, x.notCome(2));
      due(0, bed(x, 3));
      x.ask(0);
      due(0, x.notCome(1));
    });
    promise(24, "Returns the person who gets it, -1 for nobody.", "nobody asked, all have one, none is taken", () -> {
      DoorwayCensus x = Towns.seen(3);
      x.addShelter(1, 0, 40); x.addShelter(1, 1, 40);
      x.ask(0); x.ask(1);
      x.giveBeds();
      due(0, bed(x, 0));
      due(1, bed(x, 1));
      due(-1, x.notCome(0));
      x.setNeeds(2, 1);
      x.ask(2);
      x.ask(0);
      due(1, x.giveBeds());
      due(-1, x.notCome(0));
      due(2, x.notCome(1));
    });
    promise(24, "Returns the person who gets it, -1 for nobody.", "the shelter is open still, or not", () -> {
      for (int cold : new int[] {40, 41}) {
        DoorwayCensus x = Towns.on(0);
        x.ask(0);
        x.giveBeds();
        x.ask(1);
        x.setCold(cold);
        due(cold == 40 ? 1 : -1, x.notCome(0));
        due(cold == 40 ? 0 : 1, x.freeBeds(0));
      }
    });
  }

  private static void notComeOrder() {
    promise(24, "Returns the person who gets it, -1 for nobody.", "by the same order: score, then number", () -> {
      DoorwayCensus x = Towns.seen(5);
      x.addShelter(1, 7, 40);
      x.setHarm(0, 9, 60); x.setHarm(2, 5, 0); x.setHarm(3, 5, 0); x.setHarm(4, 5, 1);
      for (int s = 4; s >= 0; s--) x.ask(s);
      x.giveBeds();
      int[] order = {0, 4, 2, 3, 1};
      for (int n = 0; n < 4; n++) due(order[n + 1], x.notCome(order[n]));
      due(-1, x.notCome(1));
    });
    promise(24, "Returns the person who gets it, -1 for nobody.", "one who is not taken is passed over, banned too", () -> {
      DoorwayCensus x = Towns.seen(4);
      x.addShelter(1, 3, 40);
      x.ask(0);
      x.giveBeds();
      x.setNeeds(1, 4); x.ban(0, 2, 0);
      x.ask(1); x.ask(2); x.ask(3);
      due(3, x.notCome(0));
    });
    promise(24, "Returns the person who gets it, -1 for nobody.", "of 24 the last one", () -> {
      DoorwayCensus x = Towns.seen(24);
      x.addShelter(1, 0, 40);
      x.ask(0);
      x.giveBeds();
      for (int s = 1; s < 24; s++) { x.ask(s); if (s < 23) x.setNeeds(s, 1); }
      due(23, x.notCome(0));
    });
    promise(24, "Throws `IndexOutOfBoundsException`", "no such sighting", () -> {
      refuses(INDEX, DoorwayCensus::new, x -> x.notCome(0));
      refuses(INDEX, Towns::lively, x -> x.notCome(8));
      refuses(INDEX, Towns::full, x -> x.notCome(24));
    });
    promise(24, "Throws `NoSuchElementException` if the person has none", "asked or not, twice, the next day", () -> {
      refuses(ELEMENT, () -> Towns.seen(1), x -> x.notCome(0));
      Build asked = () -> { DoorwayCensus x = Towns.on(0); x.ask(0); return x; };
      refuses(ELEMENT, asked, x -> x.notCome(0));
      Build bed = () -> { DoorwayCensus x = asked.make(); x.giveBeds(); return x; };
      refuses(ELEMENT, bed, x -> x.notCome(1));
      refuses(ELEMENT, () -> { DoorwayCensus x = bed.make(); x.notCome(0); return x; }, x -> x.notCome(0));
      refuses(ELEMENT, () -> { DoorwayCensus x = bed.make(); x.passNights(1); return x; }, x -> x.notCome(0));
      refuses(ELEMENT, () -> { DoorwayCensus x = bed.make(); x.house(0, 0, 0); return x; }, x -> x.notCome(0));
    });
  }

  private static void mostBeds() {
    String all = "Returns how many of those who asked could have a bed in this night, at most, if all beds were given anew.";
    promise(25, all, "none there, none asked, none open, none taken", () -> {
      due(0, new DoorwayCensus().mostBeds());
      due(0, Towns.full().mostBeds());
      DoorwayCensus x = Towns.seen(1);
      x.ask(0);
      due(0, x.mostBeds());
      x.addShelter(9, 0, -1);
      due(0, x.mostBeds());
      x.setNeeds(0, 1);
      x.addShelter(9, 0, 0);
      due(0, x.mostBeds());
      x.setNeeds(0, 0);
      due(1, x.mostBeds());
      x.ban(1, 0, 0);
      due(0, x.mostBeds());
    });
    promise(25, "Returns how many.", "not more than asked, not more than beds", () -> {
      DoorwayCensus x = Towns.seen(24);
      for (int s = 0; s < 24; s++) x.ask(s);
      for (int h = 0; h < 5; h++) {
        x.addShelter(9, 0, 40);
        due(Math.min(24, 9 * h + 9), x.mostBeds());
      }
    });
    promise(25, "Returns how many.", "each 0 to 24", () -> {
      DoorwayCensus x = Towns.seen(24);
      for (int h = 0; h < 5; h++) x.addShelter(9, 0, 40);
      for (int s = 0; s < 24; s++) { due(s, x.mostBeds()); x.ask(s); }
      due(24, x.mostBeds());
    });
    promise(25, all, "whoever has asked, also who has a bed now in one that is full", () -> {
      DoorwayCensus x = Towns.on(0);
      x.ask(0);
      x.giveBeds();
      due(1, x.mostBeds());
      x.ask(1);
      due(1, x.mostBeds());
    });
    promise(25, all, "in this night: a bed in a shelter that has closed counts no more", () -> {
      DoorwayCensus x = Towns.on(0);
      x.ask(0);
      x.giveBeds();
      x.setCold(41);
      due(0, x.mostBeds());
    });
    promise(25, all, "it changes nothing", () -> {
      same(Towns::lively, () -> { DoorwayCensus x = Towns.lively(); x.mostBeds(); return x; });
      same(Towns::full, () -> { DoorwayCensus x = Towns.full(); x.mostBeds(); return x; });
    });
  }

  private static void mostBedsAnew() {
    String all = "Returns how many of those who asked could have a bed in this night, at most, if all beds were given anew.";
    promise(25, all, "more than those that were given", () -> {
      DoorwayCensus x = Towns.seen(2);
      x.addShelter(1, 0, 40); x.addShelter(1, 1, 40);
      x.setNeeds(0, 1); x.setHarm(1, 9, 0);
      x.ban(0, 1, 0);
      x.ask(0); x.ask(1);
      due(1, x.giveBeds());
      x.liftBan(0, 1);
      due(1, bed(x, 1));
      due(0, x.giveBeds());
      due(2, x.mostBeds());
    });
    promise(25, all, "by a chain of those who change places", () -> {
      DoorwayCensus x = Towns.seen(5);
      for (int h = 0; h < 5; h++) x.addShelter(1, 0, 40);
      for (int s = 0; s < 5; s++) for (int h = 0; h < 5; h++) if (h != s && h != s + 1) x.ban(h, s, 0);
      for (int s = 0; s < 5; s++) x.ask(s);
      due(5, x.mostBeds());
      x.ban(0, 0, 0);
      due(4, x.mostBeds());
      x.ban(1, 0, 0);
      due(4, x.mostBeds());
    });
    promise(25, all, "all of one shelter and one needs two: one is too many", () -> {
      DoorwayCensus x = Towns.seen(4);
      x.addShelter(2, 0, 40); x.addShelter(9, 7, 40);
      for (int s = 0; s < 3; s++) { x.ban(1, s, 0); x.ask(s); }
      due(2, x.mostBeds());
      x.ask(3);
      due(3, x.mostBeds());
    });
    promise(25, all, "small towns, against all ways to give beds", () -> {
      for (int way = 0; way < 512; way++) {
        DoorwayCensus x = Towns.seen(3);
        for (int h = 0; h < 3; h++) x.addShelter(1, 0, 40);
        for (int bit = 0; bit < 9; bit++) if ((way >> bit & 1) == 0) x.ban(bit / 3, bit % 3, 0);
        for (int s = 0; s < 3; s++) x.ask(s);
        due(mostOf(way, 0, 0), x.mostBeds());
      }
    });
  }

  /** The most of the persons from s on that can have beds, as bits of way: 3 times the shelter and the person. */
  private static int mostOf(int way, int s, int taken) {
    if (s == 3) return 0;
    int most = mostOf(way, s + 1, taken);
    for (int h = 0; h < 3; h++) {
      boolean can = (way >> 3 * h + s & 1) != 0 && (taken >> h & 1) == 0;
      if (can) most = Math.max(most, 1 + mostOf(way, s + 1, taken | 1 << h));
    }
    return most;
  }

  private static void passNights() {
    promise(26, "Lets nights go by, one by one.", "one by one or at once", () -> {
      same(() -> { DoorwayCensus x = Towns.lively(); x.passNights(60); return x; }, () -> {
        DoorwayCensus x = Towns.lively();
        for (int n = 0; n < 60; n++) x.passNights(1);
        return x;
      });
    });
    promise(26, "Lets nights go by, one by one.", "beds hold for the first one alone", () -> {
      DoorwayCensus x = Towns.on(0);
      x.ask(0);
      x.giveBeds();
      x.passNights(60);
      due(59, x.nightsOutside(0));
      due(60, x.nightsOutside(1));
    });
    promise(26, "`nights`: 1 to 60", "the ends and the next ones", () ->
        range(1, 60, Towns::lively, (x, v) -> x.passNights(v), v -> 60 + v));
    promise(26, "`nights`: 1 to 60", "so many nights outside", () -> {
      for (int n = 1; n <= 60; n++) {
        DoorwayCensus x = Towns.seen(1);
        x.passNights(n);
        due(n, x.nightsOutside(0));
      }
    });
    promise(26, "Returns the day then.", "1 to 2000", () -> {
      DoorwayCensus x = new DoorwayCensus();
      for (int n = 1; n <= 200; n++) due(n, x.passNights(1));
      for (int n = 1; n <= 30; n++) due(200 + 60 * n, x.passNights(60));
    });
  }

  private static void passNightsRefused() {
    promise(26, "Throws `IllegalArgumentException` if a number is out of range", "0 and 61", () -> {
      refuses(ARGUMENT, DoorwayCensus::new, x -> x.passNights(0));
      refuses(ARGUMENT, DoorwayCensus::new, x -> x.passNights(61));
      refuses(ARGUMENT, Towns::lively, x -> x.passNights(-1));
    });
    String above = "Throws `IllegalStateException` if it would be above 2000";
    promise(26, above, "2000 is taken, 2001 is not", () -> {
      for (int nights : new int[] {1, 2, 59, 60}) {
        due(2000, Towns.on(2000 - nights).passNights(nights));
        refuses(STATE, () -> Towns.on(2001 - nights), x -> x.passNights(nights));
      }
    });
    promise(26, above, "on the day 2000 none can go by", () -> {
      for (int nights = 1; nights <= 60; nights++) {
        int some = nights;
        due(STATE, answer(Towns.on(2000), x -> x.passNights(some)));
      }
      refuses(STATE, () -> Towns.on(2000), x -> x.passNights(1));
      refuses(STATE, () -> Towns.on(2000), x -> x.passNights(60));
    });
    promise(26, above, "not even those that would fit", () -> {
      DoorwayCensus x = Towns.on(1990);
      due(STATE, answer(x, y -> y.passNights(11)));
      due(1990, x.nightsOutside(0));
      due(2000, x.passNights(10));
    });
    promise(26, "Throws `IllegalArgumentException` if a number is out of range", "first, near the last day too", () -> {
      for (int nights : new int[] {0, -1, 61, SMALL, BIG, BIG - 2000}) {
        refuses(ARGUMENT, () -> Towns.on(2000), x -> x.passNights(nights));
      }
    });
  }

  private static void nightsOutside() {
    String all = "Returns how many nights a person was outside, of all sightings together.";
    promise(27, all, "the sum of what merged ones had, and each night once", () -> {
      DoorwayCensus x = Towns.seen(4);
      x.passNights(3);
      x.merge(0, 1);
      due(6, x.nightsOutside(1));
      x.passNights(1);
      due(7, x.nightsOutside(0));
      due(4, x.nightsOutside(2));
      x.merge(3, 0);
      due(11, x.nightsOutside(3));
    });
    promise(27, all, "0 at first, and of a sighting told later", () -> {
      DoorwayCensus x = Towns.seen(1);
      due(0, x.nightsOutside(0));
      x.passNights(5);
      x.sight(0, 0, 0, 0);
      due(0, x.nightsOutside(1));
      x.passNights(1);
      due(6, x.nightsOutside(0));
      due(1, x.nightsOutside(1));
    });
    promise(27, "`sighting`: a sighting of the person", "the first, the last and the next ones", () ->
        sightings((x, v) -> x.nightsOutside(v)));
    promise(27, "`sighting`: a sighting of the person", "any of them", () -> {
      DoorwayCensus x = Towns.full();
      x.passNights(2);
      for (int s = 0; s < 24; s++) due(2, x.nightsOutside(s));
    });
    promise(27, "Returns how many.", "all 2000, and 24 times 2000", () -> {
      DoorwayCensus x = Towns.seen(24);
      Towns.go(x, 2000);
      due(2000, x.nightsOutside(0));
      for (int s = 1; s <= 20; s++) { x.merge(0, s); due(2000 * (s + 1), x.nightsOutside(s)); }
    });
    promise(27, "Throws `IndexOutOfBoundsException`", "no such sighting", () -> {
      refuses(INDEX, DoorwayCensus::new, x -> x.nightsOutside(0));
      refuses(INDEX, Towns::lively, x -> x.nightsOutside(8));
      refuses(INDEX, Towns::full, x -> x.nightsOutside(24));
      refuses(INDEX, Towns::full, x -> x.nightsOutside(-1));
    });
  }
}
