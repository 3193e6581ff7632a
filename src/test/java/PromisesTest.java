import java.util.NoSuchElementException;

/** For each promise of ../shared/DOC.md ordinary inputs, the edges that it names, and wrong inputs. */
public final class PromisesTest {
  private interface Call { double run(); }

  private static final Class<?> INDEX = IndexOutOfBoundsException.class;
  private static final Class<?> ARGUMENT = IllegalArgumentException.class;
  private static final Class<?> STATE = IllegalStateException.class;
  private static final Class<?> UNSUPPORTED = UnsupportedOperationException.class;
  private static final Class<?> ELEMENT = NoSuchElementException.class;
  private static final Class<?> ARITHMETIC = ArithmeticException.class;
  private static final int BIG = Integer.MAX_VALUE;
  private static final int SMALL = Integer.MIN_VALUE;

  private static int wrong = 0;

  private static void tell(String what) { wrong++; System.out.println(what); }

  private static void due(String what, double want, Call call) {
    try {
      double got = call.run();
      if (got != want) tell(what + " answered " + got + ", due is " + want);
    } catch (RuntimeException e) {
      tell(what + " threw " + e + ", due is " + want);
    }
  }

  private static void due(String what, boolean want, boolean got) {
    if (got != want) tell(what + " answered " + got + ", due is " + want);
  }

  private static void due(String what, double want, double got) {
    if (got != want) tell(what + " answered " + got + ", due is " + want);
  }

  private static void fails(String what, Class<?> want, Call call) {
    try {
      double got = call.run();
      tell(what + " answered " + got + ", due is " + want);
    } catch (RuntimeException e) {
      if (e.getClass() != want) tell(what + " threw " + e + ", due is " + want);
    }
  }

  private static int num(boolean b) { return b ? 1 : 0; }

  /** A town with so many sightings, all at the door 0, of no told year. */
  private static DoorwayCensus town(int sightings) {
    DoorwayCensus x = new DoorwayCensus();
    for (int s = 0; s < sightings; s++) x.sight(0, s, 0, 0);
    return x;
  }

  public static void main(String[] args) {
    examples(); newObject(); sight(); needs(); harm(); share(); merge(); mergeOfPlaces(); undoMerge(); undoKeeps();
    persons(); likeness(); mostLike(); score(); weights(); addShelter(); ban(); bansOfMerged(); liftBan(); takes();
    cold(); ask(); giveBeds(); giveBedsByOrder(); bedOf(); freeBeds(); notCome(); notComeOrder(); mostBeds();
    passNights(); nightsOutside(); setPaper(); setOffice(); visit(); getPapers(); leastVisits(); earliestDay();
    earliestDayEdges(); store(); sweep(); sweepOfMerged(); addHome(); addFund(); house(); houseRefused(); homeOf();
    rents(); lostHome(); returnEdge(); payBehind(); countIn(); estimate(); homeShare(); meanNights(); checksum();
    isSound(); wrongNumbers();
    System.out.println(wrong == 0 ? "PromisesTest: all as due" : "PromisesTest: " + wrong + " not as due");
    if (wrong != 0) System.exit(1);
  }

  private static void examples() {
    DoorwayCensus x = new DoorwayCensus();
    due("example sight", 0, x.sight(0, 5, 1970, 3));
    due("example sight", 1, x.sight(0, 5, 1970, 1));
    due("example getLikeness", 6, x.getLikeness(0, 1));
    due("example merge", 2, x.merge(0, 1));
    due("example countPersons", 1, x.countPersons());
    due("example addShelter", 0, x.addShelter(1, 0, 40));
    due("example ask", 1, x.ask(1));
    due("example giveBeds", 1, x.giveBeds());
    due("example bedOf", 0, x.bedOf(0));
    due("example passNights", 1, x.passNights(1));
    due("example nightsOutside", 0, x.nightsOutside(0));
    DoorwayCensus y = new DoorwayCensus();
    due("example setPaper", 0, y.setPaper(1, 1, 1));
    due("example sight", 0, y.sight(0, 1, 0, 0));
    due("example leastVisits", 2, y.leastVisits(0, 1));
    due("example visit", 61, y.visit(0, 0));
    due("example passNights", 1, y.passNights(1));
    due("example visit", 2, y.visit(0, 1));
    due("example addHome", 0, y.addHome(100, 2, 0));
    due("example addFund", 0, y.addFund(150, 1));
    due("example house", 31, y.house(0, 0, 0));
    due("example countIn", 1, y.countIn('h'));
  }

  private static void newObject() {
    DoorwayCensus x = new DoorwayCensus();
    due("new countPersons", 0, x.countPersons());
    due("new checksum", 217, x.checksum());
    due("new countReturns", 0, x.countReturns());
    due("new setCold", 0, x.setCold(3));
    due("new setWeights", 1, x.setWeights(2, 2));
    due("new mostBeds", 0, x.mostBeds());
    due("new giveBeds", 0, x.giveBeds());
    due("new sweep", 0, x.sweep());
    for (char c : new char[] {'b', 'h', 'o'}) due("new countIn", 0, x.countIn(c));
    for (int o = 0; o < 3; o++) due("new setOffice", 127, x.setOffice(o, 0));
    for (int p = 0; p < 6; p++) due("new setPaper", 0, x.setPaper(p, 1, 0));
    fails("new isOpen", INDEX, () -> num(x.isOpen(0)));
    fails("new getBehind", INDEX, () -> x.getBehind(0));
    DoorwayCensus other = town(2);
    due("objects are apart", 0, x.countPersons());
    due("objects are apart", 2, other.countPersons());
  }

  private static void sight() {
    DoorwayCensus x = new DoorwayCensus();
    int[][] bad = {{-1, 0, 0, 0}, {4, 0, 0, 0}, {0, -1, 0, 0}, {0, 100, 0, 0}, {0, 0, 1929, 0}, {0, 0, 2021, 0},
        {0, 0, 1, 0}, {0, 0, -1, 0}, {0, 0, 0, -1}, {0, 0, 0, 10}, {BIG, 0, 0, 0}, {0, SMALL, 0, 0}};
    for (int[] b : bad) fails("sight out of range", ARGUMENT, () -> x.sight(b[0], b[1], b[2], b[3]));
    due("sight wrong adds nothing", 0, x.countPersons());
    due("sight", 0, x.sight(3, 99, 2020, 9));
    due("sight", 1, x.sight(0, 0, 1930, 0));
    for (int s = 2; s < 24; s++) due("sight", s, x.sight(s % 4, s, 0, s % 10));
    fails("sight a 25th", STATE, () -> x.sight(0, 0, 0, 0));
    fails("sight a wrong 25th", ARGUMENT, () -> x.sight(0, 0, 0, 10));
    due("sight 24", 24, x.countPersons());
  }

  private static void needs() {
    DoorwayCensus x = town(2);
    due("setNeeds", 0, x.setNeeds(0, 5));
    due("setNeeds", 5, x.setNeeds(0, 7));
    due("setNeeds of another", 0, x.setNeeds(1, 1));
    fails("setNeeds", ARGUMENT, () -> x.setNeeds(0, 8));
    fails("setNeeds", ARGUMENT, () -> x.setNeeds(0, -1));
    fails("setNeeds", INDEX, () -> x.setNeeds(2, 8));
    fails("setNeeds", INDEX, () -> x.setNeeds(-1, 0));
    due("setNeeds after wrong ones", 7, x.setNeeds(0, 0));
    x.merge(0, 1);
    due("setNeeds is of a sighting", 1, x.setNeeds(1, 2));
    due("setNeeds is of a sighting", 0, x.setNeeds(0, 4));
    x.addShelter(1, 6, 0); x.addShelter(1, 2, 0); x.addShelter(1, 4, 0);
    due("needs together", true, x.takes(0, 0));
    due("needs together", false, x.takes(1, 1));
    due("needs together", false, x.takes(2, 0));
    x.undoMerge();
    due("needs apart", true, x.takes(1, 1));
    due("needs apart", true, x.takes(2, 0));
  }

  private static void harm() {
    DoorwayCensus x = town(2);
    due("setHarm", 0, x.setHarm(0, 9, 60));
    due("setHarm", 9, x.setHarm(0, 4, 2));
    due("score", 6, x.getScore(0));
    int[][] bad = {{10, 0}, {-1, 0}, {0, 61}, {0, -1}};
    for (int[] b : bad) fails("setHarm", ARGUMENT, () -> x.setHarm(0, b[0], b[1]));
    fails("setHarm", INDEX, () -> x.setHarm(2, 10, 0));
    fails("setHarm", INDEX, () -> x.setHarm(-1, 0, 0));
    due("setHarm wrong ones change nothing", 6, x.getScore(0));
    x.setHarm(1, 1, 50);
    x.merge(0, 1);
    due("greatest harm, greatest years", 54, x.getScore(1));
    due("setHarm is of a sighting", 1, x.setHarm(1, 1, 50));
    x.undoMerge();
    due("apart", 6, x.getScore(0));
  }

  private static void share() {
    DoorwayCensus x = new DoorwayCensus();
    x.sight(0, 1, 0, 0); x.sight(1, 1, 0, 0); x.sight(1, 1, 0, 0);
    due("share", false, x.share(0, true));
    due("share", true, x.share(0, true));
    fails("one shared alone", UNSUPPORTED, () -> x.merge(0, 1));
    due("share", false, x.share(1, true));
    due("both shared", 2, x.merge(0, 1));
    due("share no more", true, x.share(1, false));
    due("share no more", true, x.share(0, false));
    due("merges stay", 0, x.getPerson(1));
    due("share", false, x.share(0, false));
    fails("share", INDEX, () -> num(x.share(3, true)));
    fails("share", INDEX, () -> num(x.share(-1, true)));
    fails("these two themselves", UNSUPPORTED, () -> x.merge(0, 2));
    due("these two themselves", 3, x.merge(2, 1));
  }

  private static void merge() {
    DoorwayCensus x = new DoorwayCensus();
    x.sight(0, 1, 1950, 0); x.sight(0, 2, 0, 0); x.sight(0, 3, 1951, 0); x.sight(0, 4, 1950, 0);
    fails("merge", INDEX, () -> x.merge(4, 0));
    fails("merge", INDEX, () -> x.merge(0, 4));
    fails("merge", INDEX, () -> x.merge(-1, -1));
    fails("merge with itself", UNSUPPORTED, () -> x.merge(0, 0));
    fails("unlike years", UNSUPPORTED, () -> x.merge(0, 2));
    due("a year not told", 2, x.merge(1, 0));
    fails("of one person", UNSUPPORTED, () -> x.merge(0, 1));
    fails("unlike years of persons", UNSUPPORTED, () -> x.merge(1, 2));
    due("like years", 3, x.merge(1, 3));
    due("over others", 0, x.getPerson(3));
    due("merges", 2, x.countPersons());
    DoorwayCensus z = new DoorwayCensus();
    for (int s = 0; s < 4; s++) z.sight(0, 1, s == 3 ? 0 : 1960 + s, 0);
    fails("unlike years, whatever others have", UNSUPPORTED, () -> z.merge(0, 1));
    z.merge(3, 2);
    fails("unlike years told by others of the person", UNSUPPORTED, () -> z.merge(1, 3));
    due("nothing is changed", 3, z.countPersons());
    DoorwayCensus y = town(24);
    for (int s = 1; s <= 20; s++) due("merge", s + 1, y.merge(s, s - 1));
    fails("a 21st merge", STATE, () -> y.merge(0, 21));
    fails("a 21st merge of one person", UNSUPPORTED, () -> y.merge(0, 20));
    fails("a 21st merge of none", INDEX, () -> y.merge(0, 24));
    due("20 merges", 4, y.countPersons());
    y.undoMerge();
    due("the 20th again", 2, y.merge(22, 23));
  }

  private static void mergeOfPlaces() {
    DoorwayCensus x = town(4);
    x.addHome(1, 0, 7); x.addHome(1, 0, 7); x.addFund(0, 3); x.addShelter(5, 7, 40);
    x.ask(0); x.ask(1);
    fails("both have asked", UNSUPPORTED, () -> x.merge(0, 1));
    x.giveBeds();
    fails("both have beds", UNSUPPORTED, () -> x.merge(0, 1));
    x.house(0, 2, 0);
    fails("home and asked", UNSUPPORTED, () -> x.merge(0, 2));
    fails("asked and home", UNSUPPORTED, () -> x.merge(2, 1));
    due("home and nothing", 2, x.merge(2, 3));
    due("home of the person", 0, x.homeOf(3));
    x.undoMerge();
    due("asked and nothing", 2, x.merge(3, 0));
    x.undoMerge();
    x.house(1, 3, 0);
    fails("both have homes", UNSUPPORTED, () -> x.merge(2, 3));
    x.passNights(1);
    due("none has asked", 2, x.merge(0, 1));
    due("home and nothing", 3, x.merge(0, 2));
    due("isSound", true, x.isSound());
  }

  private static void undoMerge() {
    DoorwayCensus x = town(4);
    fails("undoMerge", STATE, () -> x.undoMerge());
    x.merge(2, 3); x.merge(1, 2); x.merge(0, 3);
    due("all joined", 0, x.getPerson(3));
    due("undoMerge", 2, x.undoMerge());
    due("last one undone", 1, x.getPerson(3));
    due("last one undone", 0, x.getPerson(0));
    x.sight(1, 1, 0, 0);
    due("undoMerge", 1, x.undoMerge());
    due("undone", 2, x.getPerson(3));
    due("undone", 1, x.getPerson(1));
    due("a later sighting", 4, x.getPerson(4));
    due("undoMerge", 0, x.undoMerge());
    fails("undoMerge", STATE, () -> x.undoMerge());
    due("undone", 5, x.countPersons());
  }

  private static void undoKeeps() {
    DoorwayCensus x = town(2);
    x.addShelter(1, 7, 40); x.setPaper(1, 1, 1); x.addHome(1, 0, 7); x.addFund(0, 1);
    x.merge(0, 1);
    due("papers of the one that visits", 61, x.visit(1, 0));
    x.passNights(1);
    due("papers of the other one", 2, x.visit(0, 1));
    due("papers of both", 63, x.getPapers(1));
    x.ask(1); x.giveBeds();
    due("bed of both", 0, x.bedOf(0));
    x.undoMerge();
    due("papers kept", 2, x.getPapers(0));
    due("papers kept", 61, x.getPapers(1));
    due("nights with the lowest", 1, x.nightsOutside(0));
    due("nights with the lowest", 0, x.nightsOutside(1));
    fails("bed kept", ELEMENT, () -> x.bedOf(0));
    due("bed kept", 0, x.bedOf(1));
    fails("question kept", UNSUPPORTED, () -> x.ask(1));
    due("question of the other", 2, x.ask(0));
    fails("visit kept", UNSUPPORTED, () -> x.visit(0, 0));
    due("visit of the other", 0, x.visit(1, 2));
    x.passNights(1);
    x.merge(0, 1); x.house(0, 1, 0); x.undoMerge();
    fails("home kept", ELEMENT, () -> x.homeOf(0));
    due("home kept", 0, x.homeOf(1));
  }

  private static void persons() {
    DoorwayCensus x = town(5);
    x.merge(4, 2);
    due("getPerson", 2, x.getPerson(4));
    due("getPerson", 2, x.getPerson(2));
    due("getPerson", 3, x.getPerson(3));
    due("countPersons", 4, x.countPersons());
    x.merge(3, 4);
    due("getPerson", 2, x.getPerson(3));
    due("countPersons", 3, x.countPersons());
    fails("getPerson", INDEX, () -> x.getPerson(5));
    fails("getPerson", INDEX, () -> x.getPerson(-1));
  }

  private static void likeness() {
    DoorwayCensus x = new DoorwayCensus();
    x.sight(0, 1, 1950, 1); x.sight(0, 1, 1950, 1); x.sight(0, 2, 1951, 2); x.sight(0, 1, 0, 1); x.sight(0, 2, 0, 2);
    due("all like", 9, x.getLikeness(0, 1));
    due("all unlike", -5, x.getLikeness(0, 2));
    due("a year not told", 6, x.getLikeness(3, 0));
    due("no year told", -1, x.getLikeness(3, 4));
    due("no year told by the same", 6, x.getLikeness(3, 3));
    due("itself", 9, x.getLikeness(2, 2));
    due("name and look", 6, x.getLikeness(2, 4));
    fails("getLikeness", INDEX, () -> x.getLikeness(0, 5));
    fails("getLikeness", INDEX, () -> x.getLikeness(5, 0));
    fails("getLikeness", INDEX, () -> x.getLikeness(0, -1));
  }

  private static void mostLike() {
    DoorwayCensus x = new DoorwayCensus();
    fails("mostLike", INDEX, () -> x.mostLike(0));
    x.sight(0, 1, 1950, 1);
    fails("mostLike", ELEMENT, () -> x.mostLike(0));
    x.sight(0, 2, 1951, 2);
    due("mostLike of unlike ones", 1, x.mostLike(0));
    x.sight(0, 1, 0, 1); x.sight(0, 1, 0, 1);
    due("mostLike, the lowest", 2, x.mostLike(0));
    x.merge(0, 2);
    due("mostLike of another person", 3, x.mostLike(0));
    due("mostLike is of a sighting", 3, x.mostLike(2));
    due("mostLike", 0, x.mostLike(3));
    x.undoMerge();
    due("mostLike", 2, x.mostLike(0));
    fails("mostLike", INDEX, () -> x.mostLike(4));
    DoorwayCensus y = town(2);
    y.merge(0, 1);
    fails("mostLike of one person", ELEMENT, () -> y.mostLike(1));
  }

  private static void score() {
    DoorwayCensus x = town(3);
    due("score", 0, x.getScore(2));
    x.setHarm(0, 9, 1); x.setHarm(1, 2, 60);
    due("score", 10, x.getScore(0));
    due("score", 62, x.getScore(1));
    x.merge(0, 1); x.merge(1, 2);
    due("score", 69, x.getScore(2));
    x.setWeights(99, 99);
    due("score", 6831, x.getScore(0));
    fails("getScore", INDEX, () -> x.getScore(3));
    fails("getScore", INDEX, () -> x.getScore(-1));
  }

  private static void weights() {
    DoorwayCensus x = town(1);
    x.setHarm(0, 3, 5);
    due("setWeights", 1, x.setWeights(0, 2));
    due("score", 10, x.getScore(0));
    due("setWeights", 0, x.setWeights(99, 0));
    due("score", 297, x.getScore(0));
    int[][] bad = {{-1, 0}, {100, 0}, {0, -1}, {0, 100}};
    for (int[] b : bad) fails("setWeights", ARGUMENT, () -> x.setWeights(b[0], b[1]));
    due("score", 297, x.getScore(0));
    due("setWeights", 99, x.setWeights(99, 99));
  }

  private static void addShelter() {
    DoorwayCensus x = new DoorwayCensus();
    int[][] bad = {{0, 0, 0}, {10, 0, 0}, {1, -1, 0}, {1, 8, 0}, {1, 0, -31}, {1, 0, 41}};
    for (int[] b : bad) fails("addShelter", ARGUMENT, () -> x.addShelter(b[0], b[1], b[2]));
    due("addShelter", 0, x.addShelter(1, 0, -30));
    due("addShelter", 1, x.addShelter(9, 7, 40));
    for (int s = 2; s < 5; s++) due("addShelter", s, x.addShelter(s, s, s));
    fails("addShelter a sixth", STATE, () -> x.addShelter(1, 0, 0));
    fails("addShelter a wrong sixth", ARGUMENT, () -> x.addShelter(0, 0, 0));
    due("freeBeds", 1, x.freeBeds(0));
    due("freeBeds", 9, x.freeBeds(1));
  }

  private static void ban() {
    DoorwayCensus x = town(2);
    x.addShelter(2, 7, 40); x.addShelter(2, 7, 40);
    fails("ban", INDEX, () -> x.ban(2, 0, -1));
    fails("ban", INDEX, () -> x.ban(-1, 0, 0));
    fails("ban", INDEX, () -> x.ban(0, 2, 0));
    fails("ban", ARGUMENT, () -> x.ban(0, 0, -1));
    fails("ban", ARGUMENT, () -> x.ban(0, 0, 366));
    due("wrong bans change nothing", true, x.takes(0, 0));
    due("ban", 0, x.ban(0, 0, 0));
    due("banned", false, x.takes(0, 0));
    due("not from the other", true, x.takes(1, 0));
    due("not the other", true, x.takes(0, 1));
    x.passNights(1);
    due("a ban of one day", true, x.takes(0, 0));
    due("ban", 3, x.ban(0, 0, 2));
    due("a shorter ban", 1, x.ban(0, 0, 0));
    x.passNights(2);
    due("the last day", false, x.takes(0, 0));
    x.passNights(1);
    due("behind the last day", true, x.takes(0, 0));
    due("ban", 369, x.ban(1, 0, 365));
    x.ask(1); x.giveBeds();
    int bed = x.bedOf(1);
    x.ban(bed, 1, 5);
    due("a bed stays", bed, x.bedOf(1));
    x.notCome(1); x.ask(1); x.giveBeds();
    due("the other shelter", 1 - bed, x.bedOf(1));
  }

  private static void bansOfMerged() {
    DoorwayCensus x = town(3);
    x.addShelter(2, 7, 40);
    x.merge(0, 1);
    x.ban(0, 1, 4);
    due("banned by any sighting", false, x.takes(0, 0));
    x.undoMerge();
    due("kept with the one told", true, x.takes(0, 0));
    due("kept with the one told", false, x.takes(0, 1));
    x.merge(1, 2);
    due("banned by any sighting", false, x.takes(0, 2));
    due("liftBan by any sighting", true, x.liftBan(0, 2));
    x.undoMerge();
    due("lifted", true, x.takes(0, 1));
  }

  private static void liftBan() {
    DoorwayCensus x = town(1);
    x.addShelter(2, 7, 40); x.addShelter(2, 7, 40);
    due("liftBan of none", false, x.liftBan(0, 0));
    x.ban(0, 0, 5); x.ban(0, 0, 1); x.ban(1, 0, 5);
    due("liftBan", true, x.liftBan(0, 0));
    due("all bans", true, x.takes(0, 0));
    due("from this shelter alone", false, x.takes(1, 0));
    due("liftBan again", false, x.liftBan(0, 0));
    x.ban(0, 0, 1);
    x.passNights(1);
    due("liftBan on the last day", true, x.liftBan(0, 0));
    x.ban(0, 0, 0);
    x.passNights(1);
    due("liftBan behind the last day", false, x.liftBan(0, 0));
    fails("liftBan", INDEX, () -> num(x.liftBan(2, 0)));
    fails("liftBan", INDEX, () -> num(x.liftBan(0, 1)));
    fails("liftBan", INDEX, () -> num(x.liftBan(-1, 0)));
  }

  private static void takes() {
    DoorwayCensus x = town(1);
    x.addShelter(1, 3, -30); x.addShelter(1, 0, 40);
    for (int needs = 0; needs < 8; needs++) {
      x.setNeeds(0, needs);
      due("takes " + needs, needs < 4, x.takes(0, 0));
      due("takes " + needs, needs == 0, x.takes(1, 0));
    }
    fails("takes", INDEX, () -> num(x.takes(2, 0)));
    fails("takes", INDEX, () -> num(x.takes(0, 1)));
    fails("takes", INDEX, () -> num(x.takes(-1, -1)));
  }

  private static void cold() {
    DoorwayCensus x = town(2);
    x.addShelter(1, 0, 0); x.addShelter(1, 0, -1);
    due("open at 0", true, x.isOpen(0));
    due("not open at 0", false, x.isOpen(1));
    due("setCold", 0, x.setCold(45));
    due("too warm", false, x.isOpen(0));
    due("setCold", 45, x.setCold(-40));
    due("cold", true, x.isOpen(0));
    due("cold", true, x.isOpen(1));
    fails("setCold", ARGUMENT, () -> x.setCold(46));
    fails("setCold", ARGUMENT, () -> x.setCold(-41));
    x.ask(0); x.ask(1);
    due("giveBeds", 2, x.giveBeds());
    due("setCold", -40, x.setCold(1));
    due("beds stay", 2, x.countIn('b'));
    x.passNights(1);
    due("the cold stays", 1, x.setCold(1));
    fails("isOpen", INDEX, () -> num(x.isOpen(2)));
    fails("isOpen", INDEX, () -> num(x.isOpen(-1)));
  }

  private static void ask() {
    DoorwayCensus x = town(4);
    x.addShelter(1, 7, 40); x.addHome(5, 0, 7); x.addFund(9, 1);
    due("ask", 1, x.ask(0));
    fails("ask again", UNSUPPORTED, () -> x.ask(0));
    due("ask", 2, x.ask(1));
    x.giveBeds();
    fails("ask with a bed", UNSUPPORTED, () -> x.ask(0));
    due("those with beds have asked", 3, x.ask(2));
    x.house(0, 3, 0);
    fails("ask with a home", UNSUPPORTED, () -> x.ask(3));
    x.passNights(1);
    due("nobody has asked", 1, x.ask(0));
    due("merge", 2, x.merge(0, 1));
    fails("the person has asked", UNSUPPORTED, () -> x.ask(1));
    fails("ask", INDEX, () -> x.ask(4));
    fails("ask", INDEX, () -> x.ask(-1));
  }

  private static void giveBeds() {
    DoorwayCensus x = town(4);
    x.addShelter(1, 0, 40); x.addShelter(2, 0, 40); x.addShelter(2, 0, 40);
    due("nobody asked", 0, x.giveBeds());
    for (int s = 0; s < 4; s++) x.ask(s);
    due("giveBeds", 4, x.giveBeds());
    due("most free beds, the lowest", 1, x.bedOf(0));
    due("then the other", 2, x.bedOf(1));
    due("then like ones", 0, x.bedOf(2));
    due("then like ones", 1, x.bedOf(3));
    due("giveBeds again", 0, x.giveBeds());
    x.passNights(1);
    x.setCold(41);
    x.ask(0);
    due("none is open", 0, x.giveBeds());
    x.setCold(40); x.setNeeds(0, 1);
    due("none takes", 0, x.giveBeds());
    x.setNeeds(0, 0); x.ban(1, 0, 0); x.ban(0, 0, 0);
    due("one takes", 1, x.giveBeds());
    due("that one", 2, x.bedOf(0));
  }

  private static void giveBedsByOrder() {
    DoorwayCensus x = town(5);
    x.addShelter(2, 0, 40);
    x.setHarm(1, 0, 5); x.setHarm(3, 5, 0); x.setHarm(4, 9, 9); x.setNeeds(4, 1); x.setHarm(2, 4, 0);
    for (int s = 4; s >= 0; s--) x.ask(s);
    due("giveBeds", 2, x.giveBeds());
    due("of like ones", 0, x.bedOf(1));
    due("of like ones", 0, x.bedOf(3));
    fails("outside", ELEMENT, () -> x.bedOf(4));
    fails("outside", ELEMENT, () -> x.bedOf(2));
    due("countIn", 3, x.countIn('o'));
    DoorwayCensus y = town(3);
    y.addShelter(1, 0, 40);
    y.merge(0, 2);
    y.setHarm(1, 3, 0); y.setHarm(2, 3, 0);
    y.ask(1); y.ask(2);
    due("giveBeds", 1, y.giveBeds());
    due("the lowest person", 0, y.bedOf(0));
  }

  private static void bedOf() {
    DoorwayCensus x = town(2);
    x.addShelter(1, 0, 40);
    fails("bedOf", ELEMENT, () -> x.bedOf(0));
    x.ask(0);
    fails("bedOf of who asked", ELEMENT, () -> x.bedOf(0));
    x.giveBeds();
    due("bedOf", 0, x.bedOf(0));
    fails("bedOf", ELEMENT, () -> x.bedOf(1));
    fails("bedOf", INDEX, () -> x.bedOf(2));
    fails("bedOf", INDEX, () -> x.bedOf(-1));
    x.passNights(1);
    fails("bedOf the next day", ELEMENT, () -> x.bedOf(0));
  }

  private static void freeBeds() {
    DoorwayCensus x = town(3);
    x.addShelter(2, 0, 40); x.addShelter(1, 0, -30);
    due("freeBeds", 2, x.freeBeds(0));
    due("freeBeds of a closed one", 1, x.freeBeds(1));
    x.ask(0); x.giveBeds();
    due("freeBeds", 1, x.freeBeds(0));
    x.ask(1); x.ask(2); x.giveBeds();
    due("freeBeds", 0, x.freeBeds(0));
    x.passNights(1);
    due("freeBeds the next day", 2, x.freeBeds(0));
    fails("freeBeds", INDEX, () -> x.freeBeds(2));
    fails("freeBeds", INDEX, () -> x.freeBeds(-1));
  }

  private static void notCome() {
    DoorwayCensus x = town(3);
    x.addShelter(1, 0, 0);
    fails("notCome", INDEX, () -> x.notCome(3));
    fails("notCome", ELEMENT, () -> x.notCome(0));
    x.ask(0);
    fails("notCome without a bed", ELEMENT, () -> x.notCome(0));
    x.giveBeds(); x.ask(1);
    due("notCome", 1, x.notCome(0));
    fails("no bed any more", ELEMENT, () -> x.bedOf(0));
    due("the next one", 0, x.bedOf(1));
    due("has not asked any more", 2, x.ask(0));
    x.setCold(1);
    due("closed", -1, x.notCome(1));
    due("free", 1, x.freeBeds(0));
    x.setCold(0);
    due("who did ask", 1, x.giveBeds());
    due("nobody", -1, x.notCome(0));
    due("free", 1, x.freeBeds(0));
  }

  private static void notComeOrder() {
    DoorwayCensus x = town(7);
    x.addShelter(1, 0, 40);
    x.setHarm(0, 9, 60);
    x.ask(0);
    x.giveBeds();
    x.setNeeds(1, 2); x.setHarm(1, 9, 9); x.setHarm(2, 9, 8); x.ban(0, 2, 1);
    x.setHarm(3, 3, 0); x.setHarm(5, 0, 4); x.setHarm(4, 0, 4); x.setHarm(6, 1, 3);
    x.merge(3, 6);
    for (int s = 1; s < 6; s++) x.ask(s);
    due("the greatest score, the person", 3, x.notCome(0));
    due("bed with the one that asked", 0, x.bedOf(6));
    due("like ones, the lowest", 4, x.notCome(6));
    due("then", 5, x.notCome(4));
    due("then nobody is taken", -1, x.notCome(5));
    due("free", 1, x.freeBeds(0));
  }

  private static void mostBeds() {
    DoorwayCensus x = town(5);
    x.addShelter(1, 0, 40); x.addShelter(1, 1, 40); x.addShelter(9, 7, -5);
    due("nobody asked", 0, x.mostBeds());
    x.setNeeds(1, 1); x.setHarm(0, 1, 0);
    x.ban(0, 2, 0);
    x.ask(0);
    x.ban(0, 0, 0); x.giveBeds(); x.liftBan(0, 0);
    due("0 lies in the shelter 1", 1, x.bedOf(0));
    x.ask(1);
    due("1 gets none", 0, x.giveBeds());
    due("anew there is room for both", 2, x.mostBeds());
    x.ask(2);
    due("a bed in one that is taken", 2, x.mostBeds());
    x.ask(3); x.ask(4);
    due("two beds", 2, x.mostBeds());
    x.setCold(-5);
    due("all", 5, x.mostBeds());
    x.setCold(41);
    due("closed", 0, x.mostBeds());
    x.setCold(40);
    due("nothing is changed", 1, x.bedOf(0));
    DoorwayCensus y = town(24);
    for (int s = 0; s < 5; s++) y.addShelter(4, 1 << s % 3, 40);
    for (int s = 0; s < 24; s++) { y.setNeeds(s, 1 << s % 3); y.ask(s); }
    due("by kinds", 20, y.mostBeds());
    for (int s = 0; s < 24; s++) y.setNeeds(s, 4);
    due("one kind", 4, y.mostBeds());
  }

  private static void passNights() {
    DoorwayCensus x = town(3);
    x.addShelter(1, 7, 40); x.addHome(1, 0, 7); x.addFund(99999, 1);
    x.ask(0); x.giveBeds(); x.house(0, 1, 0);
    due("passNights", 1, x.passNights(1));
    due("with a bed", 0, x.nightsOutside(0));
    due("with a home", 0, x.nightsOutside(1));
    due("with neither", 1, x.nightsOutside(2));
    due("passNights", 4, x.passNights(3));
    due("beds are free", 3, x.nightsOutside(0));
    due("with a home", 0, x.nightsOutside(1));
    due("with neither", 4, x.nightsOutside(2));
    fails("passNights", ARGUMENT, () -> x.passNights(0));
    fails("passNights", ARGUMENT, () -> x.passNights(61));
    fails("passNights", ARGUMENT, () -> x.passNights(-1));
    due("wrong ones change nothing", 4, x.nightsOutside(2));
    DoorwayCensus y = town(1);
    for (int n = 1; n <= 33; n++) due("passNights", 60 * n, y.passNights(60));
    due("passNights", 1990, y.passNights(10));
    fails("above 2000", STATE, () -> y.passNights(11));
    fails("wrong near the end", ARGUMENT, () -> y.passNights(61));
    due("nothing is changed", 1990, y.nightsOutside(0));
    due("passNights", 2000, y.passNights(10));
    fails("above 2000", STATE, () -> y.passNights(1));
  }

  private static void nightsOutside() {
    DoorwayCensus x = town(3);
    x.passNights(2);
    x.merge(1, 2);
    due("together", 4, x.nightsOutside(2));
    x.passNights(5);
    due("one person's night", 9, x.nightsOutside(1));
    due("the other one", 7, x.nightsOutside(0));
    x.undoMerge();
    due("with the lowest", 7, x.nightsOutside(1));
    due("with the lowest", 2, x.nightsOutside(2));
    fails("nightsOutside", INDEX, () -> x.nightsOutside(3));
    fails("nightsOutside", INDEX, () -> x.nightsOutside(-1));
  }

  private static void setPaper() {
    DoorwayCensus x = town(1);
    due("setPaper", 0, x.setPaper(5, 2, 31));
    due("setPaper", 2, x.setPaper(5, 1, 0));
    int[][] bad = {{-1, 0, 0}, {6, 0, 0}, {0, -1, 0}, {0, 3, 0}, {0, 0, -1}, {0, 0, 64}, {0, 0, 1}, {5, 0, 32},
        {3, 0, 63}, {BIG, 0, 0}, {0, 0, SMALL}};
    for (int[] b : bad) fails("setPaper", ARGUMENT, () -> x.setPaper(b[0], b[1], b[2]));
    due("wrong ones change nothing", 31, x.visit(0, 0));
    due("setPaper", 1, x.setPaper(5, 0, 31));
    x.passNights(1);
    due("needed ones are held", 32, x.visit(0, 0));
  }

  private static void setOffice() {
    DoorwayCensus x = town(1);
    due("setOffice", 127, x.setOffice(2, 0));
    due("setOffice", 0, x.setOffice(2, 64));
    fails("setOffice", ARGUMENT, () -> x.setOffice(-1, 0));
    fails("setOffice", ARGUMENT, () -> x.setOffice(3, 0));
    fails("setOffice", ARGUMENT, () -> x.setOffice(0, -1));
    fails("setOffice", ARGUMENT, () -> x.setOffice(0, 128));
    for (int d = 0; d < 15; d++) {
      if (d % 7 == 6) due("open on day " + d, 0, () -> x.visit(0, 2));
      else fails("closed on day " + d, UNSUPPORTED, () -> x.visit(0, 2));
      x.passNights(1);
    }
    due("setOffice", 64, x.setOffice(2, 127));
  }

  private static void visit() {
    DoorwayCensus x = town(3);
    x.setPaper(0, 0, 2); x.setPaper(1, 0, 4); x.setPaper(2, 0, 0); x.setPaper(3, 1, 0); x.setPaper(4, 0, 8);
    x.setPaper(5, 0, 16);
    fails("visit", INDEX, () -> x.visit(3, 3));
    fails("visit", INDEX, () -> x.visit(-1, 0));
    fails("visit", ARGUMENT, () -> x.visit(0, 3));
    fails("visit", ARGUMENT, () -> x.visit(0, -1));
    due("those that came on this visit", 7, x.visit(0, 0));
    fails("one office a day", UNSUPPORTED, () -> x.visit(0, 1));
    fails("wrong behind a visit", ARGUMENT, () -> x.visit(0, 3));
    due("another person", 8, x.visit(1, 1));
    x.passNights(1);
    due("visit", 8, x.visit(0, 1));
    x.merge(1, 2);
    due("needed ones of the person", 55, x.visit(2, 0));
    fails("the person visited", UNSUPPORTED, () -> x.visit(1, 0));
    x.passNights(1);
    due("none that is held", 48, x.visit(0, 0));
    x.setOffice(0, 0);
    fails("closed", UNSUPPORTED, () -> x.visit(1, 0));
    due("nothing comes", 0, x.visit(1, 1));
  }

  private static void getPapers() {
    DoorwayCensus x = town(2);
    due("getPapers", 0, x.getPapers(0));
    x.visit(1, 0);
    due("getPapers", 63, x.getPapers(1));
    due("getPapers", 0, x.getPapers(0));
    x.merge(0, 1);
    due("getPapers", 63, x.getPapers(0));
    fails("getPapers", INDEX, () -> x.getPapers(2));
    fails("getPapers", INDEX, () -> x.getPapers(-1));
  }

  private static void leastVisits() {
    DoorwayCensus x = town(2);
    x.setPaper(1, 1, 1); x.setPaper(2, 2, 2); x.setPaper(3, 0, 4); x.setPaper(4, 1, 32); x.setPaper(5, 2, 16);
    int[] want = {1, 2, 3, 4, -1, -1};
    for (int p = 0; p < 6; p++) due("leastVisits " + p, want[p], x.leastVisits(0, p));
    for (int o = 0; o < 3; o++) x.setOffice(o, 0);
    due("days aside", 4, x.leastVisits(0, 3));
    for (int o = 0; o < 3; o++) x.setOffice(o, 127);
    x.visit(0, 0);
    due("held", 0, x.leastVisits(0, 0));
    due("one less", 1, x.leastVisits(0, 1));
    x.merge(0, 1);
    due("of the person", 1, x.leastVisits(1, 1));
    DoorwayCensus y = town(1);
    y.setPaper(0, 0, 0); y.setPaper(1, 1, 1); y.setPaper(2, 0, 2); y.setPaper(3, 1, 4); y.setPaper(4, 0, 8);
    y.setPaper(5, 1, 16);
    due("six visits", 6, y.leastVisits(0, 5));
    y.setPaper(5, 2, 0); y.setPaper(0, 2, 32); y.setPaper(1, 2, 1);
    due("the shortest way", 2, y.leastVisits(0, 2));
    fails("leastVisits", INDEX, () -> x.leastVisits(2, 6));
    fails("leastVisits", INDEX, () -> x.leastVisits(-1, 0));
    fails("leastVisits", ARGUMENT, () -> x.leastVisits(0, 6));
    fails("leastVisits", ARGUMENT, () -> x.leastVisits(0, -1));
  }

  private static void earliestDay() {
    DoorwayCensus x = town(2);
    x.setPaper(1, 1, 1); x.setPaper(2, 2, 2); x.setPaper(3, 0, 4);
    due("today", 0, x.earliestDay(0, 0));
    due("tomorrow", 1, x.earliestDay(0, 1));
    x.setOffice(1, 1);
    due("in a week", 7, x.earliestDay(0, 1));
    x.setOffice(2, 32); x.setOffice(0, 2);
    due("by the days of the offices", 15, x.earliestDay(0, 3));
    x.setOffice(0, 127);
    x.visit(0, 2 - 2);
    due("today if it is held", 0, x.earliestDay(0, 0));
    due("one visit a day", 7, x.earliestDay(0, 1));
    x.setOffice(1, 127);
    due("one visit a day", 1, x.earliestDay(0, 1));
    due("the other may visit", 0, x.earliestDay(1, 5));
    x.merge(0, 1);
    due("of the person", 1, x.earliestDay(1, 1));
    x.passNights(1);
    due("today", 1, x.earliestDay(1, 1));
    fails("earliestDay", INDEX, () -> x.earliestDay(2, 6));
    fails("earliestDay", INDEX, () -> x.earliestDay(-1, 0));
    fails("earliestDay", ARGUMENT, () -> x.earliestDay(0, 6));
    fails("earliestDay", ARGUMENT, () -> x.earliestDay(0, -1));
  }

  private static void earliestDayEdges() {
    DoorwayCensus x = town(1);
    x.setOffice(0, 0);
    due("never open", -1, x.earliestDay(0, 0));
    x.setOffice(0, 127); x.setPaper(0, 0, 2); x.setPaper(1, 0, 1);
    due("never", -1, x.earliestDay(0, 0));
    DoorwayCensus y = town(1);
    int[] offices = {0, 1, 0, 1, 0, 1};
    for (int p = 0; p < 6; p++) y.setPaper(p, offices[p], p == 0 ? 0 : 1 << p - 1);
    y.setOffice(0, 2); y.setOffice(1, 1);
    due("day 1, 7, 8, 14, 15, 21", 21, y.earliestDay(0, 5));
    due("day 15", 15, y.earliestDay(0, 4));
    y.setOffice(1, 2);
    due("the offices vie for a day", 36, y.earliestDay(0, 5));
    due("from the day 0 on", 29, y.earliestDay(0, 4));
    y.passNights(2);
    due("of today on", 43, y.earliestDay(0, 5));
    DoorwayCensus z = town(1);
    for (int n = 0; n < 33; n++) z.passNights(60);
    z.passNights(20);
    z.setOffice(0, 1 << 1999 % 7);
    due("behind the last day", 2006, z.earliestDay(0, 0));
  }

  private static void store() {
    DoorwayCensus x = town(3);
    due("store", false, x.store(0, true));
    due("store", true, x.store(0, true));
    due("store", true, x.store(0, false));
    due("store", false, x.store(0, false));
    x.merge(0, 1);
    due("store", false, x.store(1, true));
    due("of the person", true, x.store(0, true));
    x.undoMerge();
    due("kept with the ones told", true, x.store(0, true));
    due("kept with the ones told", true, x.store(1, true));
    x.merge(0, 1);
    due("no more, with all sightings", true, x.store(0, false));
    x.undoMerge();
    due("no more", false, x.store(1, false));
    due("no more", false, x.store(0, false));
    due("the other one", false, x.store(2, false));
    fails("store", INDEX, () -> num(x.store(3, true)));
    fails("store", INDEX, () -> num(x.store(-1, true)));
  }

  private static void sweep() {
    DoorwayCensus x = town(5);
    x.addShelter(1, 7, 40); x.addHome(1, 0, 7); x.addFund(9, 1);
    for (int s = 0; s < 4; s++) x.visit(s, 0);
    due("nobody was outside", 0, x.sweep());
    x.ask(0); x.giveBeds(); x.house(0, 1, 0); x.store(2, true);
    x.passNights(1);
    due("sweep", 1, x.sweep());
    due("with a bed", 63, x.getPapers(0));
    due("with a home", 63, x.getPapers(1));
    due("stored", 63, x.getPapers(2));
    due("outside", 0, x.getPapers(3));
    due("none is left", 0, x.sweep());
    x.store(2, false);
    due("stored no more", 1, x.sweep());
    x.sight(0, 1, 0, 0);
    x.visit(5, 0);
    due("a new one was not outside", 0, x.sweep());
    x.passNights(1);
    due("last night", 2, x.sweep());
    x.visit(0, 0);
    x.ask(0); x.giveBeds(); x.passNights(1);
    due("not the night before last", 0, x.sweep());
    x.passNights(2);
    due("the last one of more nights", 1, x.sweep());
    DoorwayCensus y = town(1);
    y.addHome(1, 0, 7); y.addFund(9, 1); y.visit(0, 0); y.passNights(1); y.house(0, 0, 0);
    due("outside last night, now with a home", 1, y.sweep());
  }

  private static void sweepOfMerged() {
    DoorwayCensus x = town(3);
    x.addShelter(1, 7, 40);
    x.visit(0, 0); x.visit(2, 0);
    x.ask(0); x.giveBeds();
    x.passNights(1);
    x.merge(0, 1);
    x.store(2, true);
    due("some sighting was outside", 1, x.sweep());
    due("all papers", 0, x.getPapers(0));
    x.visit(1, 0);
    x.passNights(1);
    x.merge(1, 2);
    due("stored by any", 0, x.sweep());
    x.store(0, false);
    due("one person", 1, x.sweep());
    x.undoMerge();
    due("of all sightings", 0, x.getPapers(2));
    DoorwayCensus y = town(2);
    y.merge(0, 1); y.visit(1, 0); y.passNights(1); y.undoMerge();
    due("the night is kept with the lowest", 0, y.sweep());
    due("the night is kept with the lowest", 63, y.getPapers(1));
  }

  private static void addHome() {
    DoorwayCensus x = new DoorwayCensus();
    int[][] bad = {{0, 0, 0}, {2001, 0, 0}, {1, -1, 0}, {1, 64, 0}, {1, 0, -1}, {1, 0, 8}};
    for (int[] b : bad) fails("addHome", ARGUMENT, () -> x.addHome(b[0], b[1], b[2]));
    due("addHome", 0, x.addHome(1, 0, 0));
    due("addHome", 1, x.addHome(2000, 63, 7));
    for (int h = 2; h < 6; h++) due("addHome", h, x.addHome(h, h, h));
    fails("addHome a seventh", STATE, () -> x.addHome(1, 0, 0));
    fails("addHome a wrong seventh", ARGUMENT, () -> x.addHome(0, 0, 0));
  }

  private static void addFund() {
    DoorwayCensus x = new DoorwayCensus();
    int[][] bad = {{-1, 0}, {100000, 0}, {0, -1}, {0, 64}};
    for (int[] b : bad) fails("addFund", ARGUMENT, () -> x.addFund(b[0], b[1]));
    due("addFund", 0, x.addFund(0, 0));
    due("addFund", 1, x.addFund(99999, 63));
    due("addFund", 2, x.addFund(1, 1));
    due("addFund", 3, x.addFund(2, 2));
    fails("addFund a fifth", STATE, () -> x.addFund(0, 0));
    fails("addFund a wrong fifth", ARGUMENT, () -> x.addFund(-1, 0));
  }

  private static void house() {
    DoorwayCensus x = town(3);
    x.addShelter(1, 7, 40); x.addHome(10, 0, 7); x.addHome(10, 63, 1); x.addFund(0, 3);
    x.passNights(3);
    x.ask(0); x.giveBeds(); x.ask(1);
    due("the first payment", 33, x.house(0, 0, 0));
    due("the bed is free", 1, x.freeBeds(0));
    fails("no bed", ELEMENT, () -> x.bedOf(0));
    fails("not given by itself", ELEMENT, () -> x.bedOf(1));
    fails("does not ask", UNSUPPORTED, () -> x.ask(0));
    due("the bed can be given", 1, x.giveBeds());
    due("has not asked any more", 2, x.ask(2));
    x.setNeeds(2, 1); x.visit(2, 0);
    due("papers and needs", 33, x.house(1, 2, 0));
    due("homeOf", 1, x.homeOf(2));
    due("countIn", 2, x.countIn('h'));
  }

  private static void houseRefused() {
    DoorwayCensus x = town(4);
    x.addHome(10, 0, 7); x.addHome(10, 1, 2); x.addFund(5, 1); x.addFund(5, 2); x.addFund(5, 0);
    fails("house", INDEX, () -> x.house(2, 0, 0));
    fails("house", INDEX, () -> x.house(0, 4, 0));
    fails("house", INDEX, () -> x.house(0, 0, 3));
    fails("house", INDEX, () -> x.house(-1, 0, 0));
    fails("house", INDEX, () -> x.house(0, -1, 0));
    fails("house", INDEX, () -> x.house(0, 0, -1));
    fails("fund may not pay", UNSUPPORTED, () -> x.house(0, 0, 1));
    fails("fund may not pay", UNSUPPORTED, () -> x.house(0, 0, 2));
    fails("lacks papers", UNSUPPORTED, () -> x.house(1, 0, 1));
    x.visit(0, 0); x.visit(1, 0);
    x.setNeeds(0, 3);
    fails("is not taken", UNSUPPORTED, () -> x.house(1, 0, 1));
    x.setNeeds(0, 2);
    due("is taken", 30, x.house(1, 0, 1));
    fails("is not free", UNSUPPORTED, () -> x.house(1, 1, 1));
    fails("has one", UNSUPPORTED, () -> x.house(0, 0, 0));
    x.merge(0, 2);
    fails("the person has one", UNSUPPORTED, () -> x.house(0, 2, 0));
    x.merge(1, 3);
    due("by any sighting", 30, x.house(0, 3, 0));
    due("by any sighting", 0, x.homeOf(1));
  }

  private static void homeOf() {
    DoorwayCensus x = town(2);
    x.addHome(10, 0, 7); x.addFund(0, 1);
    fails("homeOf", ELEMENT, () -> x.homeOf(0));
    x.house(0, 1, 0);
    due("homeOf", 0, x.homeOf(1));
    fails("homeOf", ELEMENT, () -> x.homeOf(0));
    fails("homeOf", INDEX, () -> x.homeOf(2));
    fails("homeOf", INDEX, () -> x.homeOf(-1));
  }

  private static void rents() {
    DoorwayCensus x = town(3);
    x.addHome(60, 0, 7); x.addHome(50, 0, 7); x.addHome(5, 0, 7);
    x.addFund(100, 3); x.addFund(10, 4);
    x.house(1, 0, 0); x.house(0, 1, 0);
    x.passNights(1);
    x.house(2, 2, 1);
    x.passNights(28);
    long before = x.checksum();
    due("no rent before", 0, x.getBehind(1));
    due("passNights", 30, x.passNights(1));
    due("by numbers of homes", 0, x.getBehind(0));
    due("by numbers of homes", 1, x.getBehind(1));
    due("sums differ", true, before != x.checksum());
    fails("40 coins are left", UNSUPPORTED, () -> x.payBehind(1, 0));
    due("the other's rent is due later", 30 + 1, x.passNights(1));
    due("the fund pays", 0, x.getBehind(2));
    x.passNights(30);
    due("the fund pays exactly", 0, x.getBehind(2));
    x.passNights(30);
    due("the fund has none", 1, x.getBehind(2));
    fails("getBehind", INDEX, () -> x.getBehind(3));
    fails("getBehind", INDEX, () -> x.getBehind(-1));
  }

  private static void lostHome() {
    DoorwayCensus x = town(2);
    x.addHome(60, 0, 7); x.addHome(1, 0, 7); x.addFund(0, 3);
    x.merge(0, 1);
    x.house(0, 1, 0);
    x.passNights(60);
    due("behind by 2", 2, x.getBehind(0));
    x.passNights(29);
    due("a home still", 0, x.homeOf(0));
    due("no return", 0, x.countReturns());
    x.passNights(1);
    due("behind by none", 0, x.getBehind(0));
    fails("lost", ELEMENT, () -> x.homeOf(0));
    due("a return", 1, x.countReturns());
    due("not outside yet", 0, x.nightsOutside(0));
    due("the sum of none", 1, x.countIn('o'));
    x.passNights(1);
    due("outside from the next night on", 1, x.nightsOutside(0));
    due("free again", 121, x.house(0, 0, 0));
    x.passNights(59);
    due("counted anew", 1, x.getBehind(0));
    x.passNights(31);
    due("a second return", 2, x.countReturns());
    due("ask", 1, x.ask(0));
  }

  private static void returnEdge() {
    DoorwayCensus x = town(2);
    x.addHome(10, 0, 7); x.addHome(10, 0, 7); x.addFund(90, 1); x.addFund(80, 2);
    x.house(0, 0, 0); x.house(1, 1, 1);
    for (int n = 0; n < 5; n++) x.passNights(60);
    due("not behind", 1, x.getBehind(0));
    due("behind", 2, x.getBehind(1));
    x.passNights(30);
    due("lost on the day 330", 1, x.countReturns());
    due("behind", 2, x.getBehind(0));
    x.passNights(30);
    fails("lost on the day 360", ELEMENT, () -> x.homeOf(0));
    due("no return", 1, x.countReturns());
    x.addHome(2000, 0, 7); x.addFund(0, 4);
    due("house", 390, x.house(2, 0, 2));
    x.passNights(60); x.passNights(30);
    due("days from the first one there", 2, x.countReturns());
  }

  private static void payBehind() {
    DoorwayCensus x = town(1);
    x.addHome(60, 0, 7);
    x.addFund(0, 1); x.addFund(59, 1); x.addFund(120, 1); x.addFund(500, 62);
    fails("payBehind", INDEX, () -> x.payBehind(1, 0));
    fails("payBehind", INDEX, () -> x.payBehind(0, 4));
    fails("payBehind", INDEX, () -> x.payBehind(-1, 0));
    fails("payBehind", INDEX, () -> x.payBehind(0, -1));
    fails("none is behind", UNSUPPORTED, () -> x.payBehind(0, 2));
    x.house(0, 0, 0);
    x.passNights(60);
    fails("has not enough", UNSUPPORTED, () -> x.payBehind(0, 0));
    fails("has not enough", UNSUPPORTED, () -> x.payBehind(0, 1));
    fails("may not pay", UNSUPPORTED, () -> x.payBehind(0, 3));
    due("payBehind", 60, x.payBehind(0, 2));
    due("getBehind", 1, x.getBehind(0));
    x.passNights(30);
    due("behind by 2 again", 2, x.getBehind(0));
    due("payBehind", 0, x.payBehind(0, 2));
    fails("has not enough", UNSUPPORTED, () -> x.payBehind(0, 2));
    due("getBehind", 1, x.getBehind(0));
    due("no return", 0, x.countReturns());
  }

  private static void countIn() {
    DoorwayCensus x = town(6);
    x.addShelter(2, 7, 40); x.addHome(1, 0, 7); x.addFund(0, 1);
    x.merge(0, 1);
    x.ask(1); x.ask(2); x.ask(3); x.giveBeds(); x.house(0, 4, 0);
    due("countIn b", 2, x.countIn('b'));
    due("countIn h", 1, x.countIn('h'));
    due("countIn o", 2, x.countIn('o'));
    x.passNights(1);
    due("countIn b", 0, x.countIn('b'));
    due("countIn o", 4, x.countIn('o'));
    for (char c : new char[] {'B', 'a', 'c', 'O', 0, ' ', 255, 65535}) {
      fails("countIn " + (int) c, ARGUMENT, () -> x.countIn(c));
    }
  }

  private static void estimate() {
    DoorwayCensus x = new DoorwayCensus();
    due("estimate of none", 0, x.estimate(0, 1));
    x.sight(0, 1, 0, 0); x.sight(0, 2, 0, 0); x.sight(1, 3, 0, 0); x.sight(0, 1, 0, 0); x.sight(2, 1, 0, 0);
    due("4 and 2 by 1", 7, x.estimate(0, 1));
    due("4 and 2 by 1", 7, x.estimate(1, 0));
    x.merge(0, 3);
    due("persons", 5, x.estimate(0, 1));
    x.share(0, true); x.share(2, true);
    x.merge(0, 2);
    due("3 and 2 by 2", 2, x.estimate(0, 1));
    due("3 and 1 by 1", 2, x.estimate(0, 3));
    due("2 and 2 by 1", 3, x.estimate(1, 2));
    x.sight(1, 9, 0, 0);
    due("3 and 3 by 2, cut", 3, x.estimate(0, 1));
    fails("estimate", ARGUMENT, () -> x.estimate(0, 0));
    fails("estimate", ARGUMENT, () -> x.estimate(-1, 0));
    fails("estimate", ARGUMENT, () -> x.estimate(0, 4));
    fails("estimate", ARGUMENT, () -> x.estimate(4, 0));
    fails("estimate", ARGUMENT, () -> x.estimate(0, -1));
  }

  private static void homeShare() {
    DoorwayCensus x = new DoorwayCensus();
    fails("homeShare", ARITHMETIC, () -> x.homeShare());
    for (int s = 0; s < 4; s++) x.sight(0, s, 0, 0);
    due("homeShare", 0.0, x.homeShare());
    x.addHome(1, 0, 7); x.addFund(0, 1); x.house(0, 1, 0);
    due("homeShare", 0.25, x.homeShare());
    x.merge(0, 1);
    due("homeShare of persons", 1.0f / 3.0f, x.homeShare());
  }

  private static void meanNights() {
    DoorwayCensus x = new DoorwayCensus();
    fails("meanNights", ARITHMETIC, () -> x.meanNights());
    for (int s = 0; s < 3; s++) x.sight(0, s, 0, 0);
    due("meanNights", 0.0, x.meanNights());
    x.addShelter(1, 0, 40); x.ask(0); x.giveBeds(); x.passNights(1);
    due("meanNights", 2.0 / 3.0, x.meanNights());
    x.merge(1, 2);
    due("meanNights", 1.0, x.meanNights());
    x.passNights(3);
    due("meanNights", 4.0, x.meanNights());
  }

  private static void checksum() {
    DoorwayCensus x = town(3);
    x.visit(1, 0); x.addHome(5, 0, 7); x.addFund(12, 1); x.addFund(3, 0);
    x.merge(0, 2); x.house(0, 0, 0); x.passNights(4);
    long want = 7;
    for (long part : new long[] {0, 0, 0, 1, 63, 4, 0, 12, 3, 4}) want = 31 * want + part;
    due("checksum", want, x.checksum());
    x.passNights(60); x.passNights(26);
    want = 7;
    for (long part : new long[] {0, 0, 0, 1, 63, 90, 1, 2, 3, 90}) want = 31 * want + part;
    due("a rent of three is behind", want, x.checksum());
    DoorwayCensus y = town(24);
    want = 7;
    for (int s = 0; s < 24; s++) want = ((want * 31 + s) * 31) * 31;
    if (y.checksum() != want * 31) tell("a checksum that wraps answered " + y.checksum());
  }

  private static void isSound() {
    DoorwayCensus x = new DoorwayCensus();
    due("isSound", true, x.isSound());
    for (int s = 0; s < 24; s++) x.sight(0, s, 0, 0);
    x.addShelter(2, 7, 40); x.addShelter(1, 7, 40); x.addHome(1, 0, 7); x.addFund(0, 1);
    for (int s = 0; s < 12; s++) x.ask(s);
    x.giveBeds();
    due("isSound", true, x.isSound());
    x.house(0, 0, 0); x.merge(13, 1); x.merge(0, 14);
    due("isSound", true, x.isSound());
    x.undoMerge(); x.passNights(60); x.passNights(60);
    due("isSound", true, x.isSound());
  }

  private static void wrongNumbers() {
    DoorwayCensus x = town(2);
    x.addShelter(1, 7, 40); x.addHome(1, 0, 7); x.addFund(5, 1);
    long before = x.checksum();
    for (int n : new int[] {SMALL, -1, 24, 64, BIG}) {
      fails("ban", INDEX, () -> x.ban(n, n, n));
      fails("house", INDEX, () -> x.house(n, n, n));
      fails("visit", INDEX, () -> x.visit(n, n));
      fails("merge", INDEX, () -> x.merge(n, n));
      fails("setPaper", ARGUMENT, () -> x.setPaper(n, n, n));
      fails("leastVisits", ARGUMENT, () -> x.leastVisits(0, n));
      fails("earliestDay", ARGUMENT, () -> x.earliestDay(0, n));
      fails("payBehind", INDEX, () -> x.payBehind(n, n));
      fails("estimate", ARGUMENT, () -> x.estimate(n, n));
      fails("passNights", ARGUMENT, () -> x.passNights(n == 24 ? 0 : n));
      fails("addFund", ARGUMENT, () -> x.addFund(0, n == 24 ? 65 : n));
    }
    due("wrong calls change nothing", before, x.checksum());
  }
}
