import java.util.ArrayList;
import java.util.List;

/**
 * Asks a town for all that it shows, and for what only later calls show; each part needs a town of its own. A part asks
 * for what is there alone, as far as it can: a call that is refused must not hide what a refused call has changed.
 */
final class Probe {
  /** How many there are of each. */
  record Size(int sightings, int shelters, int homes, int funds) {
    int parts() { return FIXED_PARTS + PAPERS + 3 * shelters + homes + funds; }
  }

  private static final int PAPERS = 6;
  private static final int FIXED_PARTS = 17;
  /** A town answers 512 calls; those that make it are some 150 at most. */
  private static final int MOST_CALLS = 350;

  private final DoorwayCensus x;
  private final Size size;
  private final List<Object> answers = new ArrayList<>();

  private Probe(DoorwayCensus x, Size size) {
    this.x = x;
    this.size = size;
  }

  static Size size(DoorwayCensus x) {
    return new Size(count(x, y -> y.sight(0, 0, 0, 0), 24), count(x, y -> y.addShelter(1, 0, 0), 5),
        count(x, y -> y.addHome(1, 0, 0), 6), count(x, y -> y.addFund(0, 0), 4));
  }

  /** The number of the next one, or the most there can be. */
  private static int count(DoorwayCensus x, Checks.Call next, int most) {
    return Checks.answer(x, next) instanceof Integer number ? number : most;
  }

  static List<Object> ask(DoorwayCensus x, Size size, int part) {
    Probe p = new Probe(x, size);
    p.part(part);
    if (p.answers.size() > MOST_CALLS) throw new IllegalStateException("part " + part + " asks too much");
    return p.answers;
  }

  private void add(Checks.Call call) { answers.add(Checks.answer(x, call)); }

  private void each(int count, Checks.NumberCall call) {
    for (int v = 0; v < count; v++) { int value = v; add(y -> call.on(y, value)); }
  }

  private void sightings(Checks.NumberCall call) { each(size.sightings, call); }

  private void part(int part) {
    int left = part - FIXED_PARTS;
    if (left < 0) { fixed(part); return; }
    if (left < PAPERS) { needed(left); return; }
    left -= PAPERS;
    if (left < 3 * size.shelters) {
      switch (left % 3) {
        case 0 -> bans(left / 3);
        case 1 -> liftedBans(left / 3);
        default -> shelter(left / 3);
      }
      return;
    }
    left -= 3 * size.shelters;
    if (left < size.homes) home(left); else fund(left - size.homes);
  }

  private void fixed(int part) {
    switch (part) {
      case 0 -> persons();
      case 1 -> counts();
      case 2 -> { sightings((y, s) -> y.setNeeds(s, 0)); sightings((y, s) -> y.setHarm(s, 0, 0)); }
      case 3 -> { sightings((y, s) -> y.share(s, false)); sightings((y, s) -> y.store(s, false)); }
      case 4 -> scores();
      case 5 -> askers();
      case 6 -> queue();
      case 7 -> { each(PAPERS, (y, p) -> y.setPaper(p, 0, 0)); each(3, (y, o) -> y.setOffice(o, 127)); }
      case 8 -> each(size.sightings * PAPERS, (y, v) -> y.leastVisits(v / PAPERS, v % PAPERS));
      case 9 -> each(size.sightings * PAPERS, (y, v) -> y.earliestDay(v / PAPERS, v % PAPERS));
      case 10 -> { papers(); add(y -> y.passNights(1)); add(y -> y.sweep()); sightings((y, s) -> y.getPapers(s)); }
      case 11 -> rents();
      case 12 -> paidByHand();
      case 13 -> { undo(); papers(); sightings((y, s) -> y.bedOf(s)); sightings((y, s) -> y.homeOf(s)); }
      case 14 -> { undo(); sightings((y, s) -> y.ask(s)); sightings((y, s) -> y.merge(s, 0)); }
      case 15 -> room();
      default -> likeness();
    }
  }

  private void persons() {
    sightings((y, s) -> y.getPerson(s));
    sightings((y, s) -> y.getScore(s));
    sightings((y, s) -> y.nightsOutside(s));
    sightings((y, s) -> y.getPapers(s));
    each(size.shelters, (y, h) -> y.freeBeds(h));
    each(size.shelters, (y, h) -> y.isOpen(h));
    each(size.homes, (y, h) -> y.getBehind(h));
    sightings((y, s) -> y.bedOf(s));
    sightings((y, s) -> y.homeOf(s));
    sightings((y, s) -> y.mostLike(s));
  }

  private void counts() {
    add(y -> y.countPersons());
    for (char c : new char[] {'b', 'h', 'o'}) add(y -> y.countIn(c));
    add(y -> y.mostBeds()); add(y -> y.countReturns()); add(y -> y.checksum()); add(y -> y.isSound());
    for (int one = 0; one < 4; one++) for (int other = 0; other < one; other++) {
      int a = one;
      int b = other;
      add(y -> y.estimate(a, b));
    }
    add(y -> y.sweep());
    sightings((y, s) -> y.getPapers(s));
    add(y -> y.setCold(0));
    add(y -> y.homeShare()); add(y -> y.meanNights());
  }

  private void scores() {
    add(y -> y.setWeights(1, 0));
    sightings((y, s) -> y.getScore(s));
    add(y -> y.setWeights(0, 1));
    sightings((y, s) -> y.getScore(s));
  }

  private void likeness() {
    for (int s = 0; s < size.sightings; s++) {
      int some = s;
      each(s + 1, (y, t) -> y.getLikeness(some, t));
    }
  }

  private void askers() {
    sightings((y, s) -> y.ask(s));
    add(y -> y.mostBeds()); add(y -> y.giveBeds());
    sightings((y, s) -> y.bedOf(s));
    each(size.shelters, (y, h) -> y.freeBeds(h));
    sightings((y, s) -> y.merge(s, s / 2));
    add(y -> y.passNights(1));
    sightings((y, s) -> y.nightsOutside(s));
  }

  private void queue() {
    add(y -> y.giveBeds());
    sightings((y, s) -> y.bedOf(s));
    sightings((y, s) -> y.notCome(s));
    sightings((y, s) -> y.bedOf(s));
    add(y -> y.giveBeds());
  }

  private void papers() {
    sightings((y, s) -> y.store(s, false));
    sightings((y, s) -> y.visit(s, 0));
    sightings((y, s) -> y.visit(s, 1));
    sightings((y, s) -> y.getPapers(s));
    add(y -> y.sweep());
    sightings((y, s) -> y.getPapers(s));
  }

  private void rents() {
    for (int n = 0; n < 40; n++) { add(y -> y.passNights(3)); add(y -> y.checksum()); add(y -> y.countReturns()); }
    sightings((y, s) -> y.homeOf(s));
  }

  /** A fund that has enough for all shows the rents. */
  private void paidByHand() {
    add(y -> y.addFund(99999, 63));
    int funds = Math.min(size.funds + 1, 4);
    for (int time = 0; time < 3; time++) {
      each(size.homes * funds, (y, v) -> y.payBehind(v / funds, funds - 1 - v % funds));
      add(y -> y.checksum());
      add(y -> y.passNights(30));
    }
  }

  private void undo() {
    for (int n = 0; n < 21; n++) { add(y -> y.undoMerge()); add(y -> y.checksum()); }
    sightings((y, s) -> y.getPerson(s));
  }

  private void room() {
    each(24, (y, s) -> y.sight(0, 0, 0, 0));
    each(5, (y, h) -> y.addShelter(1, 7, 40));
    each(6, (y, h) -> y.addHome(1, 0, 7));
    each(4, (y, f) -> y.addFund(1, 63));
    add(y -> y.setWeights(0, 0));
  }

  private void bans(int shelter) {
    sightings((y, s) -> y.takes(shelter, s));
    for (int nights : new int[] {1, 1, 1, 1, 30, 60, 60, 60, 60, 60}) {
      add(y -> y.passNights(nights));
      sightings((y, s) -> y.takes(shelter, s));
    }
  }

  private void liftedBans(int shelter) {
    for (int n = 0; n < 21; n++) add(y -> y.undoMerge());
    sightings((y, s) -> y.takes(shelter, s));
    sightings((y, s) -> y.liftBan(shelter, s));
    sightings((y, s) -> y.takes(shelter, s));
  }

  /** Up to which cold it opens, what it takes, and how many beds it has. */
  private void shelter(int shelter) {
    for (int c = -40; c <= 45; c++) {
      int cold = c;
      add(y -> y.setCold(cold));
      add(y -> y.isOpen(shelter));
    }
    if (size.sightings == 0) return;
    sightings((y, s) -> y.setNeeds(s, 0));
    add(y -> y.liftBan(shelter, 0));
    for (int n = 0; n < 8; n++) {
      int needs = n;
      add(y -> y.setNeeds(0, needs));
      add(y -> y.takes(shelter, 0));
    }
    add(y -> y.passNights(1));
    add(y -> y.freeBeds(shelter));
  }

  /** A new sighting for each number, or one that is there if there is no room. */
  private int other(int number) {
    add(y -> y.sight(3, 0, 0, 0));
    return size.sightings + number < 24 ? size.sightings + number : 23 - number;
  }

  /** A sighting that holds all papers but that one. */
  private int lacking(int paper, int number) {
    int s = other(number);
    if (paper < PAPERS) add(y -> y.setPaper(paper, 1, 0));
    add(y -> y.visit(s, 0));
    if (paper < PAPERS) add(y -> y.setPaper(paper, 0, 0));
    return s;
  }

  private void open() {
    each(PAPERS, (y, p) -> y.setPaper(p, 0, 0));
    each(3, (y, o) -> y.setOffice(o, 127));
  }

  /** All who have homes lose them, sooner or later. */
  private void lose() { for (int n = 0; n < 3; n++) add(y -> y.passNights(60)); }

  /** What a home asks for, and takes. */
  private void home(int home) {
    open();
    add(y -> y.addFund(0, 63));
    int fund = Math.min(size.funds, 3);
    lose();
    for (int n = 0; n < PAPERS + 3; n++) {
      int number = n;
      int s = lacking(n, n);
      if (n >= PAPERS) add(y -> y.setNeeds(s, 1 << number - PAPERS));
      add(y -> y.house(home, s, fund));
      add(y -> y.passNights(60));
      add(y -> y.passNights(30));
    }
  }

  /** For which homes a fund may pay. */
  private void fund(int fund) {
    open();
    lose();
    each(6 - size.homes, (y, h) -> y.addHome(1, 0, 7));
    for (int home = 0; home < 6; home++) {
      int some = home;
      int s = lacking(PAPERS, home);
      add(y -> y.house(some, s, fund));
    }
    add(y -> y.checksum());
    for (int n = 0; n < 4; n++) { add(y -> y.passNights(30)); add(y -> y.checksum()); }
  }

  /** What a paper needs: each other one in turn comes only behind it. */
  private void needed(int paper) {
    each(3, (y, o) -> y.setOffice(o, 127));
    for (int other = 0; other < PAPERS; other++) if (other != paper) ready(other);
    add(y -> y.passNights(1));
    for (int other = 0; other < PAPERS; other++) {
      if (other == paper) continue;
      int lacked = other;
      int s = other(other < paper ? other : other - 1);
      add(y -> y.setPaper(lacked, 0, 1 << paper));
      for (int office = 0; office < 3; office++) {
        int some = office;
        add(y -> y.visit(s, some));
        add(y -> y.passNights(1));
      }
      add(y -> y.getPapers(s));
      ready(other);
    }
    add(y -> y.setPaper(paper, 0, 0));
  }

  private void ready(int paper) { add(y -> y.setPaper(paper, 0, 0)); }
}
