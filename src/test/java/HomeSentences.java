/** Promises 36 to 42: homes, funds, rents and returns. */
final class HomeSentences extends Checks {
  static void run() {
    addHome(); addHomeRefused(); addFund(); addFundRefused(); house(); houseAnswers(); houseRefused(); houseOrder();
    homeOf(); getBehind(); payBehind(); payBehindRefused(); countReturns(); returnDays();
  }

  /** One sighting in the home 0 of that rent since the day 0, paid by the fund 0 of so many coins. */
  private static DoorwayCensus rented(int rent, int coins) {
    DoorwayCensus x = Towns.seen(2);
    x.addHome(rent, 0, 7); x.addFund(coins, 1);
    x.house(0, 0, 0);
    return x;
  }

  private static void addHome() {
    promise(36, "Adds a home.", "free, behind by none", () -> {
      DoorwayCensus x = Towns.seen(1);
      due(INDEX, answer(x, y -> y.getBehind(0)));
      x.addHome(1, 0, 7);
      due(0, x.getBehind(0));
      due(0, x.countIn('h'));
    });
    promise(36, "`rent`: 1 to 2000", "the ends and the next ones", () ->
        range(1, 2000, DoorwayCensus::new, (x, v) -> x.addHome(v, 0, 0), v -> 0));
    promise(36, "`rent`: 1 to 2000", "the ends and the next ones, in a town that has some", () -> {
      for (int rent : new int[] {1, 2000}) due(3, Towns.lively().addHome(rent, 63, 7));
      for (int rent : new int[] {0, -1, 2001}) refuses(ARGUMENT, Towns::lively, x -> x.addHome(rent, 63, 7));
    });
    promise(36, "`rent`: 1 to 2000", "so much is paid", () -> {
      for (int rent : new int[] {1, 2, 1999, 2000}) {
        DoorwayCensus x = rented(rent, rent);
        x.passNights(60);
        due(1, x.getBehind(0));
        x.addFund(2 * rent, 1);
        due(rent, x.payBehind(0, 1));
      }
    });
    promise(36, "`papers`: 0 to 63, as bits", "the ends and the next ones", () ->
        range(0, 63, Towns::lively, (x, v) -> x.addHome(1, v, 0), v -> 3));
    promise(36, "`papers`: 0 to 63, as bits", "each set with each that is held", () -> {
      for (int asks = 0; asks < 64; asks++) for (int held : new int[] {0, 1, 21, 31, 32, 62, 63}) {
        DoorwayCensus x = holder(held);
        x.addHome(1, asks, 7); x.addFund(0, 1);
        due((held | asks) == held ? 30 : UNSUPPORTED, answer(x, y -> y.house(0, 0, 0)));
      }
    });
    promise(36, "`takes`: 0 to 7, as bits", "the ends and the next ones", () ->
        range(0, 7, Towns::lively, (x, v) -> x.addHome(1, 0, v), v -> 3));
    promise(36, "`takes`: 0 to 7, as bits", "each set of bits with each set of needs", () -> {
      for (int takes = 0; takes < 8; takes++) for (int needs = 0; needs < 8; needs++) {
        DoorwayCensus x = Towns.seen(1);
        x.addHome(1, 0, takes); x.addFund(0, 1);
        x.setNeeds(0, needs);
        due((needs | takes) == takes ? 30 : UNSUPPORTED, answer(x, y -> y.house(0, 0, 0)));
      }
    });
    promise(36, "Returns its number.", "0 to 5", () -> {
      DoorwayCensus x = new DoorwayCensus();
      for (int h = 0; h < 6; h++) due(h, x.addHome(2000, 63, 7));
    });
  }

  /** One sighting that holds just these papers. */
  private static DoorwayCensus holder(int papers) {
    DoorwayCensus x = Towns.seen(1);
    for (int p = 0; p < 6; p++) if ((papers >> p & 1) == 0) x.setPaper(p, 1, 0);
    x.visit(0, 0);
    return x;
  }

  private static void addHomeRefused() {
    promise(36, "Throws `IllegalArgumentException` if a number is out of range", "each alone, the others at their ends", () -> {
      int[][] bad = {{0, 0, 0}, {0, 63, 7}, {2001, 0, 0}, {2001, 63, 7}, {1, -1, 0}, {2000, 64, 7}, {1, 0, -1}, {2000, 63, 8}};
      for (int[] b : bad) {
        refuses(ARGUMENT, DoorwayCensus::new, x -> x.addHome(b[0], b[1], b[2]));
        refuses(ARGUMENT, Towns::lively, x -> x.addHome(b[0], b[1], b[2]));
      }
    });
    promise(36, "Throws `IllegalStateException` if there were 6", "the sixth is taken, the seventh is not", () -> {
      DoorwayCensus x = new DoorwayCensus();
      for (int h = 0; h < 6; h++) due(h, x.addHome(1, 0, 0));
      refuses(STATE, Towns::full, y -> y.addHome(1, 0, 0));
      refuses(STATE, Towns::full, y -> y.addHome(2000, 63, 7));
    });
    promise(36, "Throws `IllegalArgumentException` if a number is out of range", "first, where there were 6 too", () -> {
      int[][] bad = {{0, 0, 0}, {2001, 0, 0}, {1, -1, 0}, {1, 64, 0}, {1, 0, -1}, {1, 0, 8}};
      for (int[] b : bad) refuses(ARGUMENT, Towns::full, x -> x.addHome(b[0], b[1], b[2]));
    });
  }

  private static void addFund() {
    promise(37, "Adds a fund.", "it can pay", () -> {
      DoorwayCensus x = Towns.seen(1);
      x.addHome(1, 0, 7);
      due(INDEX, answer(x, y -> y.house(0, 0, 0)));
      x.addFund(0, 1);
      due(30, x.house(0, 0, 0));
    });
    promise(37, "`coins`: 0 to 99999", "the ends and the next ones", () -> {
      for (int coins : new int[] {0, 1, 99998, 99999}) due(2, Towns.lively().addFund(coins, 0));
      for (int coins : new int[] {-1, 100000, SMALL, BIG}) refuses(ARGUMENT, Towns::lively, x -> x.addFund(coins, 0));
    });
    promise(37, "`coins`: 0 to 99999", "so many it has", () -> {
      for (int coins : new int[] {0, 1, 99998, 99999}) {
        DoorwayCensus x = new DoorwayCensus();
        x.addFund(coins, 0);
        due((217L + coins) * 31, x.checksum());
      }
    });
    promise(37, "`coins`: 0 to 99999", "the most, paid out", () -> {
      DoorwayCensus x = rented(1, 0);
      x.passNights(30);
      x.addFund(99999, 1);
      due(99998, x.payBehind(0, 1));
    });
    promise(37, "`homes`: 0 to 63, as bits", "the ends and the next ones", () ->
        range(0, 63, Towns::lively, (x, v) -> x.addFund(0, v), v -> 2));
    promise(37, "`homes`: 0 to 63, as bits", "each set with each home", () -> {
      for (int may = 0; may < 64; may++) for (int home = 0; home < 6; home++) {
        DoorwayCensus x = Towns.seen(1);
        for (int h = 0; h < 6; h++) x.addHome(1, 0, 7);
        x.addFund(0, may);
        int some = home;
        due((may >> home & 1) != 0 ? 30 : UNSUPPORTED, answer(x, y -> y.house(some, 0, 0)));
      }
    });
    promise(37, "`homes`: 0 to 63, as bits", "of homes that are added later", () -> {
      DoorwayCensus x = Towns.seen(1);
      due(0, x.addFund(0, 32));
      for (int h = 0; h < 6; h++) x.addHome(1, 0, 7);
      due(30, x.house(5, 0, 0));
    });
    promise(37, "Returns its number.", "0 to 3", () -> {
      DoorwayCensus x = new DoorwayCensus();
      for (int f = 0; f < 4; f++) due(f, x.addFund(99999, 63));
    });
  }

  private static void addFundRefused() {
    promise(37, "Throws `IllegalArgumentException` if a number is out of range", "each alone, the other at its ends", () -> {
      int[][] bad = {{-1, 0}, {-1, 63}, {100000, 0}, {100000, 63}, {0, -1}, {99999, -1}, {0, 64}, {99999, 64}};
      for (int[] b : bad) {
        refuses(ARGUMENT, DoorwayCensus::new, x -> x.addFund(b[0], b[1]));
        refuses(ARGUMENT, Towns::lively, x -> x.addFund(b[0], b[1]));
      }
    });
    promise(37, "Throws `IllegalStateException` if there were 4", "the fourth is taken, the fifth is not", () -> {
      DoorwayCensus x = new DoorwayCensus();
      for (int f = 0; f < 4; f++) due(f, x.addFund(0, 0));
      refuses(STATE, Towns::full, y -> y.addFund(0, 0));
      refuses(STATE, Towns::full, y -> y.addFund(99999, 63));
    });
    promise(37, "Throws `IllegalArgumentException` if a number is out of range", "first, where there were 4 too", () -> {
      int[][] bad = {{-1, 0}, {100000, 0}, {0, -1}, {0, 64}};
      for (int[] b : bad) refuses(ARGUMENT, Towns::full, x -> x.addFund(b[0], b[1]));
    });
  }

  private static void house() {
    String all = "Gives a home to a person, paid by a fund.";
    promise(38, all, "the person, the home, the fund, and no other one", () -> {
      DoorwayCensus x = Towns.full();
      x.house(2, 21, 3);
      due(2, x.homeOf(21));
      due(1, x.countIn('h'));
      x.passNights(30);
      due(0, x.getBehind(2));
      due(ELEMENT, answer(x, y -> y.homeOf(22)));
      due(UNSUPPORTED, answer(x, y -> y.payBehind(2, 3)));
      x.passNights(30);
      due(1, x.getBehind(2));
    });
    promise(38, all, "a bed of this night is free then", () -> {
      DoorwayCensus x = Towns.on(0);
      x.ask(0); x.giveBeds(); x.ask(1);
      x.house(0, 0, 0);
      due(1, x.freeBeds(0));
      due(ELEMENT, answer(x, y -> y.bedOf(0)));
      due(ELEMENT, answer(x, y -> y.bedOf(1)));
      due(1, x.giveBeds());
      due(0, x.bedOf(1));
    });
    promise(38, all, "the person has not asked any more, with a bed or not", () -> {
      for (boolean bed : new boolean[] {true, false}) {
        DoorwayCensus x = Towns.on(0);
        x.ask(0);
        if (bed) x.giveBeds();
        x.house(0, 0, 0);
        due(0, x.mostBeds());
        due(0, x.giveBeds());
        due(1, x.ask(1));
      }
    });
    promise(38, all, "a bed and a question with another sighting of the person too", () -> {
      DoorwayCensus x = Towns.full();
      x.ask(20); x.giveBeds();
      x.house(0, 3, 0);
      for (int h = 0; h < 5; h++) due(h + 1, x.freeBeds(h));
      x.undoMerge();
      due(ELEMENT, answer(x, y -> y.bedOf(20)));
      due(1, x.ask(20));
    });
    promise(38, "`home`: the home", "the first, the last and the next ones", () -> homes((x, v) -> x.house(v, 7, 1)));
    promise(38, "`sighting`: a sighting of the person", "the first, the last and the next ones", () ->
        sightings((x, v) -> x.house(1, v, 1)));
    promise(38, "`sighting`: a sighting of the person", "any of them", () -> {
      for (int s = 0; s <= 20; s++) {
        DoorwayCensus x = Towns.full();
        due(30, x.house(0, s, 0));
        due(0, x.homeOf(20 - s));
        due(UNSUPPORTED, answer(x, y -> y.house(1, 0, 0)));
      }
    });
    promise(38, "`fund`: the fund", "the first, the last and the next ones", () -> funds((x, v) -> x.house(0, 0, v)));
  }

  private static void houseAnswers() {
    promise(38, "Returns the day of the first payment.", "30 days from today", () -> {
      for (int day : new int[] {0, 1, 29, 30, 1970, 1971, 2000}) due(day + 30, Towns.on(day).house(0, 0, 0));
    });
    promise(38, "Returns the day of the first payment.", "not before that day, and on it", () -> {
      DoorwayCensus x = rented(10, 9);
      x.passNights(29);
      due(0, x.getBehind(0));
      x.passNights(1);
      due(1, x.getBehind(0));
    });
    promise(38, "Returns the day of the first payment.", "anew when it is given again", () -> {
      DoorwayCensus x = rented(10, 0);
      x.passNights(60); x.passNights(35);
      due(125, x.house(0, 1, 0));
      x.passNights(29);
      due(0, x.getBehind(0));
      x.passNights(1);
      due(1, x.getBehind(0));
    });
  }

  private static void houseRefused() {
    String cannot = "Throws `UnsupportedOperationException` if the home is not free, the person has one, lacks papers, or is "
        + "not taken, or the fund may not pay";
    promise(38, "Throws `IndexOutOfBoundsException` if there is no such home, sighting, or fund", "each alone", () -> {
      refuses(INDEX, DoorwayCensus::new, x -> x.house(0, 0, 0));
      int[][] bad = {{6, 0, 0}, {-1, 0, 0}, {0, 24, 0}, {0, -1, 0}, {0, 0, 4}, {0, 0, -1}, {6, 24, 4}, {BIG, BIG, BIG}};
      for (int[] b : bad) refuses(INDEX, Towns::full, x -> x.house(b[0], b[1], b[2]));
    });
    promise(38, cannot, "the home is not free", () -> {
      Build b = () -> { DoorwayCensus x = Towns.full(); x.house(5, 21, 0); return x; };
      refuses(UNSUPPORTED, b, x -> x.house(5, 22, 0));
      refuses(UNSUPPORTED, b, x -> x.house(5, 21, 0));
      due(30, b.make().house(4, 22, 0));
    });
    promise(38, cannot, "free again when it is lost", () -> {
      DoorwayCensus x = rented(1, 0);
      x.passNights(60); x.passNights(29);
      due(UNSUPPORTED, answer(x, y -> y.house(0, 1, 0)));
      x.passNights(1);
      due(120, x.house(0, 1, 0));
    });
    promise(38, cannot, "the person has one", () -> {
      Build b = () -> { DoorwayCensus x = Towns.full(); x.house(5, 3, 0); return x; };
      for (int s : new int[] {0, 3, 20}) refuses(UNSUPPORTED, b, x -> x.house(4, s, 0));
    });
    promise(38, cannot, "lacks papers, one or all", () -> {
      for (int held : new int[] {0, 1, 31, 62}) {
        refuses(UNSUPPORTED, () -> { DoorwayCensus x = holder(held); x.addHome(1, 63, 7); x.addFund(0, 1); return x; },
            x -> x.house(0, 0, 0));
      }
      DoorwayCensus x = Towns.seen(2);
      x.addHome(1, 63, 7); x.addFund(0, 1);
      x.visit(1, 0);
      due(UNSUPPORTED, answer(x, y -> y.house(0, 0, 0)));
      x.merge(0, 1);
      due(30, x.house(0, 0, 0));
    });
    promise(38, cannot, "is not taken", () -> {
      for (int need : new int[] {1, 2, 4, 7}) {
        refuses(UNSUPPORTED, () -> {
          DoorwayCensus x = Towns.seen(2);
          x.addHome(1, 0, 7 & ~(need == 7 ? 1 : need)); x.addFund(0, 1);
          x.merge(0, 1);
          x.setNeeds(1, need);
          return x;
        }, x -> x.house(0, 0, 0));
      }
    });
    promise(38, cannot, "the fund may not pay", () -> {
      for (int home = 0; home < 6; home++) {
        int some = home;
        refuses(UNSUPPORTED, () -> {
          DoorwayCensus x = Towns.seen(1);
          for (int h = 0; h < 6; h++) x.addHome(1, 0, 7);
          x.addFund(99999, 63 & ~(1 << some)); x.addFund(0, 63);
          return x;
        }, x -> x.house(some, 0, 0));
      }
    });
    promise(38, cannot, "a fund without coins may pay", () -> {
      DoorwayCensus x = rented(2000, 0);
      due(0, x.homeOf(0));
    });
  }

  private static void houseOrder() {
    promise(38, "Throws `IndexOutOfBoundsException` if there is no such home, sighting, or fund",
        "first, where the home could not be given either", () -> {
          Build b = () -> { DoorwayCensus x = Towns.full(); x.house(5, 21, 0); return x; };
          refuses(INDEX, b, x -> x.house(5, 22, 4));
          refuses(INDEX, b, x -> x.house(5, 24, 0));
          refuses(INDEX, b, x -> x.house(6, 21, 0));
          refuses(INDEX, b, x -> x.house(4, 21, -1));
          refuses(INDEX, Towns::lively, x -> x.house(2, 7, 2));
        });
  }

  private static void homeOf() {
    promise(39, "Returns the home of a person.", "the first to the last", () -> {
      DoorwayCensus x = Towns.full();
      x.undoMerge(); x.undoMerge();
      int[] who = {23, 22, 21, 20, 19, 0};
      for (int h = 0; h < 6; h++) x.house(h, who[h], 0);
      for (int h = 0; h < 6; h++) due(h, x.homeOf(who[h]));
      due(6, x.countIn('h'));
    });
    promise(39, "`sighting`: a sighting of the person", "the first, the last and the next ones", () ->
        sightings((x, v) -> x.homeOf(v)));
    promise(39, "`sighting`: a sighting of the person", "any of them", () -> {
      DoorwayCensus x = Towns.full();
      x.house(5, 20, 0);
      for (int s = 0; s <= 20; s++) due(5, x.homeOf(s));
      due(ELEMENT, answer(x, y -> y.homeOf(21)));
    });
    promise(39, "Returns the home.", "as long as it is not lost", () -> {
      DoorwayCensus x = rented(1, 0);
      for (int n = 0; n < 89; n++) { x.passNights(1); due(0, x.homeOf(0)); }
      x.passNights(1);
      due(ELEMENT, answer(x, y -> y.homeOf(0)));
    });
    promise(39, "Throws `IndexOutOfBoundsException`", "no such sighting", () -> {
      refuses(INDEX, DoorwayCensus::new, x -> x.homeOf(0));
      refuses(INDEX, Towns::lively, x -> x.homeOf(8));
      refuses(INDEX, Towns::full, x -> x.homeOf(24));
      refuses(INDEX, Towns::full, x -> x.homeOf(-1));
    });
    promise(39, "Throws `NoSuchElementException` if the person has none", "none yet, a bed alone, lost", () -> {
      refuses(ELEMENT, () -> Towns.seen(1), x -> x.homeOf(0));
      refuses(ELEMENT, () -> { DoorwayCensus x = Towns.on(0); x.ask(0); x.giveBeds(); return x; }, x -> x.homeOf(0));
      refuses(ELEMENT, () -> rented(1, 1), x -> x.homeOf(1));
      refuses(ELEMENT, () -> { DoorwayCensus x = rented(1, 0); Towns.go(x, 90); return x; }, x -> x.homeOf(0));
    });
  }

  private static void getBehind() {
    promise(40, "Returns by how many rents a home is behind.", "0, 1, 2, and 0 when it is lost", () -> {
      DoorwayCensus x = rented(1, 0);
      for (int day = 0; day <= 100; day++) {
        due(day < 90 ? day / 30 : 0, x.getBehind(0));
        x.passNights(1);
      }
    });
    promise(40, "`home`: the home", "the first, the last and the next ones", () -> homes((x, v) -> x.getBehind(v)));
    promise(40, "Returns how many.", "of that home alone, of a free one none", () -> {
      DoorwayCensus x = Towns.full();
      x.house(5, 21, 0);
      x.passNights(30);
      for (int h = 0; h < 6; h++) due(h == 5 ? 1 : 0, x.getBehind(h));
    });
    promise(40, "Returns how many.", "one fund for two homes pays the lower one", () -> {
      DoorwayCensus x = Towns.seen(2);
      x.addHome(10, 0, 7); x.addHome(5, 0, 7);
      x.addFund(14, 3);
      x.house(0, 0, 0); x.house(1, 1, 0);
      x.passNights(30);
      due(0, x.getBehind(0));
      due(1, x.getBehind(1));
    });
    promise(40, "Throws `IndexOutOfBoundsException` if there is no such home", "none, 3, 6", () -> {
      refuses(INDEX, DoorwayCensus::new, x -> x.getBehind(0));
      refuses(INDEX, Towns::lively, x -> x.getBehind(3));
      refuses(INDEX, Towns::full, x -> x.getBehind(6));
      refuses(INDEX, Towns::full, x -> x.getBehind(-1));
    });
  }

  private static void payBehind() {
    promise(41, "Pays one rent that is behind.", "one of two", () -> {
      DoorwayCensus x = rented(10, 0);
      x.passNights(60);
      x.addFund(100, 1);
      due(90, x.payBehind(0, 1));
      due(1, x.getBehind(0));
      due(80, x.payBehind(0, 1));
      due(0, x.getBehind(0));
      due(UNSUPPORTED, answer(x, y -> y.payBehind(0, 1)));
    });
    promise(41, "Pays one rent that is behind.", "the home is kept by it", () -> {
      DoorwayCensus x = rented(10, 0);
      x.addFund(10, 1);
      x.passNights(60);
      x.payBehind(0, 1);
      x.passNights(30);
      due(0, x.homeOf(0));
      due(2, x.getBehind(0));
      x.passNights(30);
      due(1, x.countReturns());
    });
    promise(41, "`home`: the home", "the first, the last and the next ones", () -> homes((x, v) -> x.payBehind(v, 0)));
    promise(41, "`fund`: the fund", "the first, the last and the next ones", () -> funds((x, v) -> x.payBehind(0, v)));
    promise(41, "`fund`: the fund", "any that may pay, its own too", () -> {
      for (int f = 0; f < 4; f++) {
        DoorwayCensus x = Towns.seen(1);
        x.addHome(10, 0, 7); x.addHome(10, 0, 7);
        for (int fund = 0; fund < 4; fund++) x.addFund(fund == 0 ? 0 : 10 + fund, fund == 2 ? 2 : 3);
        x.house(0, 0, 0);
        x.passNights(30);
        int some = f;
        due(f == 0 || f == 2 ? UNSUPPORTED : f, answer(x, y -> y.payBehind(0, some)));
      }
    });
    promise(41, "Returns the coins that the fund has then.", "the rent just so, or one above", () -> {
      for (int coins : new int[] {2000, 2001, 99999}) {
        DoorwayCensus x = rented(2000, 1999);
        x.passNights(30);
        x.addFund(coins, 1);
        due(coins - 2000, x.payBehind(0, 1));
      }
    });
  }

  private static void payBehindRefused() {
    promise(41, "Throws `IndexOutOfBoundsException` if there is no such home, or fund", "each alone, or both", () -> {
      refuses(INDEX, DoorwayCensus::new, x -> x.payBehind(0, 0));
      int[][] bad = {{6, 0}, {-1, 0}, {0, 4}, {0, -1}, {6, 4}, {SMALL, BIG}};
      for (int[] b : bad) refuses(INDEX, Towns::full, x -> x.payBehind(b[0], b[1]));
    });
    promise(41, "Throws `IndexOutOfBoundsException` if there is no such home, or fund", "first, where none is behind too", () -> {
      refuses(INDEX, Towns::lively, x -> x.payBehind(1, 2));
      refuses(INDEX, Towns::lively, x -> x.payBehind(3, 0));
    });
    String cannot = "Throws `UnsupportedOperationException` if none is behind, or the fund may not pay, or has not enough";
    promise(41, cannot, "none is behind: free, paid, or lost", () -> {
      refuses(UNSUPPORTED, () -> { DoorwayCensus x = Towns.seen(1); x.addHome(1, 0, 7); x.addFund(9, 1); return x; },
          x -> x.payBehind(0, 0));
      refuses(UNSUPPORTED, () -> { DoorwayCensus x = rented(1, 99); x.passNights(60); return x; }, x -> x.payBehind(0, 0));
      refuses(UNSUPPORTED, () -> { DoorwayCensus x = rented(1, 0); Towns.go(x, 90); x.addFund(9, 1); return x; },
          x -> x.payBehind(0, 1));
    });
    promise(41, cannot, "the fund may not pay", () -> {
      Build b = () -> { DoorwayCensus x = rented(1, 0); x.passNights(30); x.addFund(99999, 62); x.addFund(1, 0); return x; };
      refuses(UNSUPPORTED, b, x -> x.payBehind(0, 1));
      refuses(UNSUPPORTED, b, x -> x.payBehind(0, 2));
    });
    promise(41, cannot, "has not enough, by one or by all", () -> {
      Build b = () -> { DoorwayCensus x = rented(2000, 0); x.passNights(30); x.addFund(1999, 1); return x; };
      refuses(UNSUPPORTED, b, x -> x.payBehind(0, 0));
      refuses(UNSUPPORTED, b, x -> x.payBehind(0, 1));
    });
  }

  private static void countReturns() {
    promise(42, "Returns how many returns there were.", "none at first, with a home, before it is lost", () -> {
      due(0, new DoorwayCensus().countReturns());
      DoorwayCensus x = rented(1, 0);
      due(0, x.countReturns());
      x.passNights(60); x.passNights(29);
      due(0, x.countReturns());
      x.passNights(1);
      due(1, x.countReturns());
    });
    promise(42, "Returns how many.", "six at once, and again", () -> {
      DoorwayCensus x = Towns.seen(6);
      x.addFund(0, 63);
      for (int h = 0; h < 6; h++) x.addHome(1, 0, 7);
      for (int time = 1; time <= 3; time++) {
        for (int h = 0; h < 6; h++) x.house(h, h, 0);
        Towns.go(x, 89);
        due(6 * time - 6, x.countReturns());
        x.passNights(1);
        due(6 * time, x.countReturns());
      }
    });
    promise(42, "Returns how many.", "by so many on one day, each home by itself", () -> {
      DoorwayCensus x = Towns.seen(2);
      x.addHome(1, 0, 7); x.addHome(1, 0, 7); x.addFund(0, 3);
      x.house(0, 0, 0);
      x.passNights(1);
      x.house(1, 1, 0);
      Towns.go(x, 89);
      due(1, x.countReturns());
      x.passNights(1);
      due(2, x.countReturns());
    });
  }

  private static void returnDays() {
    promise(42, "Returns how many returns there were.", "less than 360 days: 330 is one, 360 is none", () -> {
      for (int paid : new int[] {0, 8, 9, 10}) for (int first : new int[] {0, 1, 30}) {
        DoorwayCensus x = Towns.seen(1);
        x.addHome(10, 0, 7); x.addFund(10 * paid, 1);
        x.passNights(60);
        Towns.go(x, first);
        x.house(0, 0, 0);
        Towns.go(x, 30 * paid + 89);
        due(0, x.homeOf(0));
        x.passNights(1);
        due(ELEMENT, answer(x, y -> y.homeOf(0)));
        due(paid < 9 ? 1 : 0, x.countReturns());
      }
    });
    promise(42, "Returns how many returns there were.", "from the first day in this home, not in one before", () -> {
      DoorwayCensus x = Towns.seen(1);
      x.addHome(10, 0, 7); x.addFund(100, 1); x.addHome(10, 0, 7);
      x.addFund(0, 2);
      x.house(0, 0, 0);
      Towns.go(x, 390);
      due(0, x.countReturns());
      x.house(1, 0, 1);
      Towns.go(x, 90);
      due(1, x.countReturns());
    });
  }
}
