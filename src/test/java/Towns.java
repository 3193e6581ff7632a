/** Towns that tests begin with. */
final class Towns {
  private Towns() {}

  /** So many sightings at the door 0, of no told year, of unlike names. */
  static DoorwayCensus seen(int sightings) {
    DoorwayCensus x = new DoorwayCensus();
    for (int s = 0; s < sightings; s++) x.sight(0, s, 0, 0);
    return x;
  }

  /** 8 sightings, 6 persons, 3 shelters, 3 homes and 2 funds on the day 60, with some of all that can be told. */
  static DoorwayCensus lively() {
    DoorwayCensus x = new DoorwayCensus();
    int[][] seen = {{0, 5, 1970, 3}, {0, 5, 0, 1}, {1, 7, 1955, 2}, {2, 7, 0, 2}, {0, 9, 1980, 4}, {1, 1, 0, 5},
        {3, 2, 1980, 6}, {0, 3, 0, 7}};
    for (int[] s : seen) x.sight(s[0], s[1], s[2], s[3]);
    x.share(2, true); x.share(3, true); x.share(4, true);
    x.merge(1, 0); x.merge(3, 2);
    x.setNeeds(1, 1); x.setNeeds(5, 2); x.setHarm(0, 4, 10); x.setHarm(3, 2, 30); x.setHarm(7, 9, 60);
    x.setWeights(3, 2);
    x.addShelter(1, 1, 10); x.addShelter(2, 7, 40); x.addShelter(1, 0, -30);
    x.setPaper(1, 1, 1); x.setPaper(2, 2, 2); x.setPaper(3, 0, 4); x.setOffice(1, 85);
    x.visit(1, 0); x.visit(4, 0); x.store(4, true);
    x.addHome(40, 0, 7); x.addHome(100, 2, 3); x.addHome(2000, 63, 0);
    x.addFund(50, 3); x.addFund(70, 7);
    x.house(0, 6, 0);
    x.passNights(60);
    x.ban(0, 4, 3); x.ban(1, 5, 0); x.ban(1, 2, 365);
    x.setCold(-2);
    x.visit(5, 0);
    x.ask(1); x.ask(4); x.ask(5);
    x.giveBeds();
    x.ask(7);
    return x;
  }

  /** All there can be: 24 sightings, 20 merges (0 to 20 are one person), 5 shelters, 6 homes, 4 funds; on the day 0. */
  static DoorwayCensus full() {
    DoorwayCensus x = seen(24);
    for (int s = 1; s <= 20; s++) x.merge(s, s - 1);
    for (int h = 0; h < 5; h++) x.addShelter(h + 1, 7, 40);
    for (int h = 0; h < 6; h++) x.addHome(h + 1, 0, 7);
    for (int f = 0; f < 4; f++) x.addFund(f == 2 ? 99999 : f, 63);
    x.setHarm(23, 2, 3);
    return x;
  }

  /** A town of two sightings, a shelter, a home and a fund on that day. */
  static DoorwayCensus on(int day) {
    DoorwayCensus x = seen(2);
    x.addShelter(1, 7, 40); x.addHome(10, 0, 7); x.addFund(99999, 1);
    go(x, day);
    return x;
  }

  /** A town that has some of all, but nobody. */
  static DoorwayCensus deserted() {
    DoorwayCensus x = new DoorwayCensus();
    x.addShelter(2, 5, 7); x.addShelter(3, 2, -7); x.addShelter(1, 7, 40);
    x.addHome(60, 5, 3); x.addHome(70, 2, 4); x.addFund(50, 3); x.addFund(70, 1);
    x.setCold(-2); x.setWeights(3, 2);
    x.setPaper(1, 1, 1); x.setPaper(2, 2, 2); x.setPaper(3, 0, 4); x.setOffice(1, 85);
    x.passNights(60);
    return x;
  }

  /** The same with one person of two sightings, who has asked. */
  static DoorwayCensus lonely() {
    DoorwayCensus x = deserted();
    x.sight(0, 5, 1970, 3); x.sight(0, 5, 0, 1);
    x.merge(0, 1);
    x.setNeeds(1, 1); x.setHarm(0, 4, 10); x.ban(0, 1, 3); x.store(1, true);
    x.passNights(1);
    x.visit(1, 0);
    x.ask(1);
    return x;
  }

  static void go(DoorwayCensus x, int nights) {
    for (int left = nights; left > 0; left -= 60) x.passNights(Math.min(left, 60));
  }
}
