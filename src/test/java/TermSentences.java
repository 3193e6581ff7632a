import java.util.ArrayList;
import java.util.List;

/** The sentences of the document's "Terms": what the promises have in common. */
final class TermSentences extends Checks {
  static void run() {
    places(); atMost(); needsAndShares(); merges(); persons(); whoCanBeMerged(); scores(); likeness(); keptWith(); parted();
    nightsAtFirst(); openAndTaken(); banDays(); asking(); bedsGiven(); bedsPassedOn(); nightGoesBy(); papersAtFirst();
    weeks(); visits(); swept(); homesAndFunds(); housed(); rentDays(); rentsLost(); returnsAndHand(); unseen();
    exceptions(); examples(); callsOfAnObject();
  }

  private static void places() {
    terms("One person has one place a night", "a bed, or a home, or neither", () -> {
      DoorwayCensus x = Towns.full();
      x.ask(20); x.giveBeds();
      due(1, x.countIn('b'));
      x.house(0, 0, 0);
      due(0, x.countIn('b'));
      due(1, x.countIn('h'));
      due(3, x.countIn('o'));
      due(UNSUPPORTED, answer(x, y -> y.ask(20)));
    });
    terms("nobody loses a place by a merge that is undone", "a bed, a home", () -> {
      DoorwayCensus x = Towns.seen(4);
      x.addShelter(1, 7, 40); x.addHome(1, 0, 7); x.addFund(0, 1);
      x.ask(1); x.giveBeds(); x.house(0, 3, 0);
      x.merge(0, 1); x.undoMerge();
      x.merge(3, 2); x.undoMerge();
      due(0, x.bedOf(1));
      due(0, x.homeOf(3));
      due(0, x.freeBeds(0));
    });
    terms("nobody loses a place by a merge that is undone", "one that was got while merged", () -> {
      DoorwayCensus x = Towns.seen(4);
      x.addShelter(1, 7, 40); x.addHome(1, 0, 7); x.addFund(0, 1);
      x.merge(0, 1); x.merge(2, 3);
      x.ask(1); x.giveBeds(); x.house(0, 3, 0);
      x.undoMerge(); x.undoMerge();
      due(0, x.bedOf(1));
      due(0, x.homeOf(3));
      due(2, x.countIn('o'));
    });
  }

  private static void atMost() {
    terms("At most 24 sightings are numbered from 0", "24, the 25th not, from 0", () -> {
      DoorwayCensus x = new DoorwayCensus();
      for (int s = 0; s < 24; s++) due(s, x.sight(0, 0, 0, 0));
      refuses(STATE, () -> Towns.seen(24), y -> y.sight(0, 0, 0, 0));
    });
    terms("At most 24 sightings are numbered from 0", "a year of 0 was not told", () -> {
      DoorwayCensus x = new DoorwayCensus();
      x.sight(0, 0, 0, 0); x.sight(0, 0, 1930, 0); x.sight(0, 0, 2020, 0);
      due(6, x.getLikeness(0, 1));
      due(2, x.merge(0, 1));
      due(UNSUPPORTED, answer(x, y -> y.merge(0, 2)));
    });
    terms("At most 5 shelters are numbered from 0", "5, the sixth not, from 0", () -> {
      DoorwayCensus x = new DoorwayCensus();
      for (int h = 0; h < 5; h++) due(h, x.addShelter(1, 0, 0));
      due(STATE, answer(x, y -> y.addShelter(1, 0, 0)));
    });
    terms("At most 6 homes are numbered from 0", "6, the seventh not, from 0", () -> {
      DoorwayCensus x = new DoorwayCensus();
      for (int h = 0; h < 6; h++) due(h, x.addHome(1, 0, 0));
      due(STATE, answer(x, y -> y.addHome(1, 0, 0)));
    });
    terms("At most 4 funds are numbered from 0", "4, the fifth not, from 0", () -> {
      DoorwayCensus x = new DoorwayCensus();
      for (int f = 0; f < 4; f++) due(f, x.addFund(0, 0));
      due(STATE, answer(x, y -> y.addFund(0, 0)));
    });
  }

  private static void needsAndShares() {
    String all = "It is told of a sighting what one needs";
    terms(all, "bits summed up: 1, 2 and 4", () -> {
      DoorwayCensus x = Towns.seen(1);
      x.addShelter(1, 1, 0); x.addShelter(1, 2, 0); x.addShelter(1, 4, 0); x.addShelter(1, 6, 0);
      int[] takers = {15, 1, 10, 0, 12, 0, 8, 0};
      for (int needs = 0; needs < 8; needs++) {
        x.setNeeds(0, needs);
        for (int h = 0; h < 4; h++) due((takers[needs] >> h & 1) != 0, x.takes(h, 0));
      }
    });
    terms(all, "all 0 at first, shared false at first", () -> {
      DoorwayCensus x = Towns.seen(24);
      for (int s = 0; s < 24; s++) {
        due(0, x.getScore(s));
        due(0, x.setNeeds(s, 0));
        due(0, x.setHarm(s, 0, 0));
        due(false, x.share(s, false));
      }
    });
  }

  private static void merges() {
    String all = "Merges join two sightings each, at most 20, the last one of which can be undone.";
    terms(all, "20, the 21st not", () -> {
      DoorwayCensus x = Towns.full();
      due(STATE, answer(x, y -> y.merge(21, 22)));
      due(STATE, answer(x, y -> y.merge(0, 23)));
      due(19, x.undoMerge());
      due(2, x.merge(21, 22));
    });
    terms(all, "the last one, whatever persons it joined", () -> {
      DoorwayCensus x = Towns.seen(6);
      x.merge(0, 1); x.merge(2, 3); x.merge(4, 5); x.merge(5, 0);
      due(0, x.getPerson(4));
      x.undoMerge();
      due(4, x.getPerson(5));
      due(0, x.getPerson(1));
      x.undoMerge();
      due(5, x.getPerson(5));
      due(2, x.getPerson(3));
    });
  }

  private static void persons() {
    String all = "A person is all sightings that are joined, over others, too";
    terms(all, "over others", () -> {
      DoorwayCensus x = Towns.seen(24);
      for (int s = 23; s > 3; s--) x.merge(s, s - 1);
      for (int s = 3; s < 24; s++) due(3, x.getPerson(s));
      due(4, x.countPersons());
    });
    terms(all, "any is told, the lowest is answered", () -> {
      DoorwayCensus x = Towns.seen(5);
      x.addShelter(1, 7, 40);
      x.merge(4, 3); x.merge(3, 1);
      x.ask(0); x.giveBeds();
      x.ask(4);
      due(1, x.notCome(0));
      due(0, x.bedOf(3));
      due(-1, x.notCome(1));
    });
  }

  private static void whoCanBeMerged() {
    String all = "Two can be merged if they are of unlike persons";
    terms(all, "each of the four conditions broken by itself", () -> {
      Build b = () -> {
        DoorwayCensus x = new DoorwayCensus();
        x.sight(0, 0, 1950, 0); x.sight(0, 0, 0, 0); x.sight(0, 0, 1951, 0); x.sight(1, 0, 1950, 0); x.sight(0, 0, 0, 0);
        x.addHome(1, 0, 7); x.addFund(0, 1);
        x.merge(0, 1);
        return x;
      };
      due(3, b.make().merge(1, 4));
      refuses(UNSUPPORTED, b, x -> x.merge(1, 0));
      refuses(UNSUPPORTED, b, x -> x.merge(0, 3));
      refuses(UNSUPPORTED, b, x -> x.merge(1, 2));
      refuses(UNSUPPORTED, () -> { DoorwayCensus x = b.make(); x.ask(0); x.ask(4); return x; }, x -> x.merge(1, 4));
      refuses(UNSUPPORTED, () -> { DoorwayCensus x = b.make(); x.ask(4); x.house(0, 0, 0); return x; }, x -> x.merge(1, 4));
    });
    terms(all, "each place of the one with each of the other", () -> {
      for (int one = 0; one < 4; one++) for (int other = 0; other < 4; other++) {
        DoorwayCensus x = Towns.seen(2);
        x.addShelter(9, 7, 40); x.addHome(1, 0, 7); x.addHome(1, 0, 7); x.addFund(0, 3);
        put(x, 0, one);
        put(x, 1, other);
        due(one == 0 || other == 0 ? 2 : UNSUPPORTED, answer(x, y -> y.merge(0, 1)));
      }
    });
  }

  /** 0 nothing, 1 a question, 2 a bed, 3 a home; who has asked gets a bed where a later one gets one. */
  private static void put(DoorwayCensus x, int sighting, int place) {
    if (place == 1 || place == 2) x.ask(sighting);
    if (place == 2) x.giveBeds();
    if (place == 3) x.house(sighting, sighting, 0);
  }

  private static void scores() {
    String all = "A person needs what any of the sightings needs, together";
    terms(all, "needs together, apart again", () -> {
      DoorwayCensus x = Towns.seen(3);
      x.addShelter(1, 3, 0); x.addShelter(1, 7, 0);
      x.setNeeds(0, 1); x.setNeeds(1, 2); x.setNeeds(2, 4);
      x.merge(0, 1);
      due(true, x.takes(0, 1));
      x.merge(1, 2);
      due(false, x.takes(0, 0));
      due(true, x.takes(1, 0));
      x.undoMerge();
      due(true, x.takes(0, 0));
      due(false, x.takes(0, 2));
    });
    terms(all, "a need of one of 21 sightings alone, whichever it is", () -> {
      for (int s = 0; s <= 20; s++) {
        DoorwayCensus x = Towns.seen(22);
        x.addShelter(1, 3, 0);
        for (int joined = 1; joined <= 20; joined++) x.merge(0, joined);
        x.setNeeds(s, 4);
        for (int any = 0; any <= 21; any++) due(any == 21, x.takes(0, any));
      }
    });
    terms(all, "a need of each of two: neither alone is enough to take", () -> {
      for (int takes = 0; takes < 8; takes++) for (int one = 0; one < 8; one++) for (int other = 0; other < 8; other++) {
        DoorwayCensus x = Towns.seen(2);
        x.addShelter(1, takes, 0);
        x.setNeeds(0, one); x.setNeeds(1, other);
        x.merge(0, 1);
        due((one | other | takes) == takes, x.takes(0, 0));
      }
    });
    terms(all, "the greatest harm, the greatest years, of unlike sightings", () -> {
      DoorwayCensus x = Towns.seen(3);
      x.setHarm(0, 3, 20); x.setHarm(1, 9, 1); x.setHarm(2, 0, 60);
      x.merge(0, 1);
      due(29, x.getScore(0));
      x.merge(2, 1);
      due(69, x.getScore(1));
      x.setHarm(2, 0, 0);
      due(29, x.getScore(2));
    });
    terms(all, "both weights 1 at first", () -> {
      DoorwayCensus x = Towns.seen(1);
      x.setHarm(0, 1, 0);
      due(1, x.getScore(0));
      x.setHarm(0, 0, 1);
      due(1, x.getScore(0));
      due(1, x.setWeights(7, 11));
      due(11, x.getScore(0));
      x.setHarm(0, 2, 3);
      due(47, x.getScore(0));
    });
  }

  private static void likeness() {
    terms("The likeness of two sightings is 4", "each name, year and look, like or not", () -> {
      int[][] years = {{1930, 1930, 3}, {1930, 2020, -4}, {1930, 1931, -4}, {0, 1930, 0}, {2020, 0, 0}, {0, 0, 0}};
      for (int name = 0; name < 2; name++) for (int look = 0; look < 2; look++) for (int[] y : years) {
        DoorwayCensus x = new DoorwayCensus();
        x.sight(0, 7, y[0], 5); x.sight(3, 7 + name, y[1], 5 + look);
        int want = (name == 0 ? 4 : 0) + y[2] + (look == 0 ? 2 : -1);
        due(want, x.getLikeness(0, 1));
        due(want, x.getLikeness(1, 0));
      }
    });
  }

  private static void keptWith() {
    String all = "What is told of a person, a bed, a home, a question for a night";
    terms(all, "each with the one that was told", () -> {
      DoorwayCensus x = Towns.seen(3);
      x.addShelter(9, 7, 40); x.addHome(1, 0, 7); x.addFund(0, 1);
      x.merge(0, 1); x.merge(1, 2);
      x.ban(0, 2, 9); x.store(1, true); x.visit(2, 0);
      x.undoMerge(); x.undoMerge();
      for (int s = 0; s < 3; s++) {
        due(s != 2, x.takes(0, s));
        due(s == 1, x.store(s, false));
        due(s == 2 ? 63 : 0, x.getPapers(s));
      }
    });
    terms(all, "a bed with the one that asked, though another one was told since", () -> {
      DoorwayCensus x = Towns.seen(2);
      x.addShelter(9, 7, 40);
      x.ask(1);
      x.merge(0, 1);
      x.giveBeds();
      x.undoMerge();
      due(0, x.bedOf(1));
      due(ELEMENT, answer(x, y -> y.bedOf(0)));
      due(2, x.ask(0));
    });
    terms(all, "a question with the one that asked", () -> {
      DoorwayCensus x = Towns.seen(2);
      x.merge(0, 1);
      x.ask(1);
      x.undoMerge();
      due(UNSUPPORTED, answer(x, y -> y.ask(1)));
      due(2, x.ask(0));
      due(UNSUPPORTED, answer(x, y -> y.merge(0, 1)));
    });
    terms(all, "a home with the one told", () -> {
      DoorwayCensus x = Towns.seen(2);
      x.addHome(1, 0, 7); x.addFund(0, 1);
      x.merge(0, 1);
      x.house(0, 1, 0);
      x.undoMerge();
      due(ELEMENT, answer(x, y -> y.homeOf(0)));
      due(0, x.homeOf(1));
      x.passNights(1);
      due(1, x.nightsOutside(0));
      due(0, x.nightsOutside(1));
    });
    terms(all, "nights with the lowest", () -> {
      DoorwayCensus x = Towns.seen(3);
      x.merge(2, 1);
      x.passNights(3);
      x.merge(2, 0);
      x.passNights(4);
      due(10, x.nightsOutside(2));
      x.undoMerge();
      due(7, x.nightsOutside(0));
      due(3, x.nightsOutside(2));
      x.undoMerge();
      due(3, x.nightsOutside(1));
      due(0, x.nightsOutside(2));
    });
  }

  private static void parted() {
    String all = "A person has what any of the sightings has";
    terms(all, "together when merged, its own when undone", () -> {
      DoorwayCensus x = Towns.seen(4);
      x.addShelter(1, 7, 40); x.addShelter(1, 7, 40);
      x.setPaper(1, 1, 0);
      x.visit(0, 0); x.visit(1, 1); x.ban(0, 0, 60); x.ban(1, 1, 60); x.store(0, true);
      x.passNights(2);
      x.merge(0, 1);
      due(63, x.getPapers(1));
      due(4, x.nightsOutside(0));
      due(false, x.takes(0, 1));
      due(false, x.takes(1, 0));
      due(0, x.sweep());
      x.undoMerge();
      due(61, x.getPapers(0));
      due(2, x.getPapers(1));
      due(2, x.nightsOutside(1));
      due(true, x.takes(0, 1));
      due(true, x.takes(1, 0));
      due(1, x.sweep());
    });
    terms(all, "a paper that both hold is each one's still", () -> {
      DoorwayCensus x = Towns.seen(2);
      x.visit(0, 0); x.visit(1, 0);
      x.merge(0, 1);
      due(63, x.getPapers(0));
      x.undoMerge();
      due(63, x.getPapers(0));
      due(63, x.getPapers(1));
    });
  }

  private static void nightsAtFirst() {
    String all = "The day is 0 at first; so is the cold of this night.";
    terms(all, "the day", () -> due(1, new DoorwayCensus().passNights(1)));
    terms(all, "the cold", () -> {
      DoorwayCensus x = new DoorwayCensus();
      x.addShelter(1, 0, -1); x.addShelter(1, 0, 0);
      due(false, x.isOpen(0));
      due(true, x.isOpen(1));
      due(0, x.setCold(5));
    });
  }

  private static void openAndTaken() {
    terms("At most 5 shelters are numbered from 0", "open in a night that is not warmer", () -> {
      for (int degrees = -30; degrees <= 40; degrees += 10) for (int cold = -40; cold <= 45; cold++) {
        DoorwayCensus x = new DoorwayCensus();
        x.addShelter(1, 0, degrees);
        x.setCold(cold);
        due(cold <= degrees, x.isOpen(0));
      }
    });
    String all = "It takes a person whose needs are all among those it takes, and who is not banned from it.";
    terms(all, "one of three needs is not among them", () -> {
      DoorwayCensus x = Towns.seen(1);
      x.addShelter(1, 3, 0); x.addShelter(1, 5, 0); x.addShelter(1, 6, 0); x.addShelter(1, 7, 0);
      x.setNeeds(0, 7);
      for (int h = 0; h < 4; h++) due(h == 3, x.takes(h, 0));
    });
    terms(all, "banned", () -> {
      DoorwayCensus x = Towns.seen(1);
      x.addShelter(1, 7, 0);
      x.ban(0, 0, 0);
      due(false, x.takes(0, 0));
    });
  }

  private static void banDays() {
    String all = "A ban holds up to a day, that day included.";
    terms(all, "that day, and the next one", () -> {
      DoorwayCensus x = Towns.on(0);
      int last = x.ban(0, 0, 7);
      for (int day = 0; day < 10; day++) {
        due(day > last, x.takes(0, 0));
        x.passNights(1);
      }
    });
    terms(all, "each ban up to its own day: a shorter one does not end a longer one", () -> {
      DoorwayCensus x = Towns.on(0);
      x.ban(0, 0, 5);
      x.ban(0, 0, 1);
      for (int day = 0; day < 8; day++) {
        due(day > 5, x.takes(0, 0));
        x.passNights(1);
      }
    });
    terms(all, "a later ban lasts longer", () -> {
      DoorwayCensus x = Towns.on(0);
      x.ban(0, 0, 1);
      x.passNights(1);
      x.ban(0, 0, 1);
      x.passNights(1);
      due(false, x.takes(0, 0));
      x.passNights(1);
      due(true, x.takes(0, 0));
    });
  }

  private static void asking() {
    terms("Persons ask for this night.", "once a night, each night", () -> {
      DoorwayCensus x = Towns.seen(1);
      for (int n = 0; n < 3; n++) {
        due(1, x.ask(0));
        due(UNSUPPORTED, answer(x, y -> y.ask(0)));
        x.passNights(1);
      }
    });
    terms("Those who have a home do not ask.", "with one, and when it is lost", () -> {
      DoorwayCensus x = Towns.on(0);
      x.addFund(0, 1);
      x.house(0, 0, 1);
      due(UNSUPPORTED, answer(x, y -> y.ask(0)));
      Towns.go(x, 89);
      due(UNSUPPORTED, answer(x, y -> y.ask(0)));
      x.passNights(1);
      due(1, x.ask(0));
    });
  }

  private static void bedsGiven() {
    String all = "Beds are given to those who asked and have none";
    terms(all, "by the greatest score, of like ones the lowest", () -> {
      DoorwayCensus x = Towns.seen(24);
      x.addShelter(9, 7, 40);
      for (int s = 0; s < 24; s++) { x.setHarm(s, 0, s / 2); x.ask(s); }
      due(9, x.giveBeds());
      for (int s = 0; s < 24; s++) due(s > 15 || s == 14 ? 0 : ELEMENT, bed(x, s));
    });
    terms(all, "the open shelter with the most free beds, of like ones the lowest", () -> {
      DoorwayCensus x = Towns.seen(10);
      x.addShelter(2, 7, 40); x.addShelter(9, 7, -1); x.addShelter(4, 7, 40); x.addShelter(4, 3, 40);
      int[] want = {2, 3, 2, 3, 0, 2, 3, 0, 2, 3};
      for (int s = 0; s < 10; s++) { x.ask(s); due(1, x.giveBeds()); due(want[s], bed(x, s)); }
    });
    terms(all, "others stay outside", () -> {
      DoorwayCensus x = Towns.on(0);
      x.ask(0); x.ask(1);
      due(1, x.giveBeds());
      due(1, x.countIn('o'));
      x.passNights(1);
      due(0, x.nightsOutside(0));
      due(1, x.nightsOutside(1));
    });
  }

  private static Object bed(DoorwayCensus x, int s) { return answer(x, y -> y.bedOf(s)); }

  private static void bedsPassedOn() {
    String all = "A bed that is not used is free again";
    terms(all, "to one who asked, has none, and is taken there, by the same order", () -> {
      DoorwayCensus x = Towns.seen(6);
      x.addShelter(1, 1, 40); x.addShelter(1, 1, 40);
      x.setHarm(0, 9, 60); x.setHarm(1, 9, 59); x.setHarm(2, 9, 58); x.setHarm(3, 9, 57); x.setHarm(4, 9, 56);
      x.setNeeds(2, 2);
      x.ask(0); x.ask(1); x.ask(2); x.ask(4); x.ask(5);
      due(2, x.giveBeds());
      due(4, x.notCome(0));
      due(5, x.notCome(1));
      due(0, bed(x, 4));
      due(1, bed(x, 5));
    });
    terms(all, "if the shelter is open still, of that degree and one warmer", () -> {
      for (int cold = 39; cold <= 42; cold++) {
        DoorwayCensus x = Towns.on(0);
        x.ask(0); x.giveBeds(); x.ask(1);
        x.setCold(cold);
        due(cold <= 40 ? 1 : -1, x.notCome(0));
      }
    });
    terms(all, "of the same shelter, though another one has beds", () -> {
      DoorwayCensus x = Towns.seen(2);
      x.addShelter(2, 7, 40); x.addShelter(1, 7, 40);
      x.ask(0); x.giveBeds(); x.ask(1);
      due(1, x.notCome(0));
      due(0, bed(x, 1));
    });
  }

  private static void nightGoesBy() {
    String all = "As a night goes by, persons without a bed and without a home are outside for one night more";
    terms(all, "each place", () -> {
      DoorwayCensus x = Towns.seen(4);
      x.addShelter(1, 7, 40); x.addHome(1, 0, 7); x.addFund(9, 1);
      x.ask(0); x.ask(1); x.giveBeds(); x.house(0, 2, 0);
      due(1, x.passNights(1));
      int[] want = {0, 1, 0, 1};
      for (int s = 0; s < 4; s++) due(want[s], x.nightsOutside(s));
    });
    terms(all, "beds are free, nobody has asked, the next day comes", () -> {
      DoorwayCensus x = Towns.full();
      x.ask(0); x.ask(21); x.giveBeds(); x.ask(22);
      due(1, x.passNights(1));
      due(0, x.mostBeds());
      due(0, x.countIn('b'));
      for (int h = 0; h < 5; h++) due(h + 1, x.freeBeds(h));
      due(1, x.ask(21));
    });
  }

  private static void papersAtFirst() {
    String all = "The papers are 0 to 5, each at an office";
    terms(all, "at the office 0, needing none, at first", () -> {
      DoorwayCensus x = Towns.seen(1);
      due(63, x.visit(0, 0));
      for (int p = 0; p < 6; p++) due(0, x.setPaper(p, 0, 0));
      DoorwayCensus y = Towns.seen(2);
      due(0, y.visit(0, 1));
      due(0, y.visit(1, 2));
    });
    String stored = "A person's papers are stored or not, not at first.";
    terms(stored, "not at first", () -> {
      DoorwayCensus x = Towns.seen(24);
      for (int s = 0; s < 24; s++) due(false, x.store(s, false));
    });
  }

  private static void weeks() {
    String all = "An office is open on days of the week, as bits, the day modulo 7; on all at first.";
    terms(all, "on all at first", () -> {
      DoorwayCensus x = Towns.seen(1);
      for (int day = 0; day < 15; day++) { due(day == 0 ? 63 : 0, x.visit(0, day % 3 == 0 ? 0 : 1)); x.passNights(1); }
      for (int o = 0; o < 3; o++) due(127, x.setOffice(o, 0));
    });
    terms(all, "the day modulo 7, up to the day 2000", () -> {
      for (int day : new int[] {0, 6, 7, 8, 13, 14, 1994, 1995, 1999, 2000}) {
        DoorwayCensus x = Towns.on(day);
        x.setOffice(0, 1 << day % 7);
        due(63, x.visit(0, 0));
        x.setOffice(0, 127 & ~(1 << day % 7));
        due(UNSUPPORTED, answer(x, y -> y.visit(1, 0)));
      }
    });
  }

  private static void visits() {
    String all = "A person can visit one office a day, an open one";
    terms(all, "one a day, a refused one aside", () -> {
      DoorwayCensus x = Towns.seen(1);
      x.setOffice(2, 0);
      due(UNSUPPORTED, answer(x, y -> y.visit(0, 2)));
      due(ARGUMENT, answer(x, y -> y.visit(0, 3)));
      due(0, x.visit(0, 1));
      due(UNSUPPORTED, answer(x, y -> y.visit(0, 0)));
      x.passNights(1);
      due(63, x.visit(0, 0));
    });
    terms(all, "not held, needed ones held, also by those that came on this visit", () -> {
      DoorwayCensus x = Towns.seen(1);
      x.setPaper(5, 1, 0); x.setPaper(4, 0, 32); x.setPaper(3, 0, 16); x.setPaper(2, 0, 24); x.setPaper(1, 0, 1);
      due(3, x.visit(0, 0));
      x.passNights(1);
      due(32, x.visit(0, 1));
      x.passNights(1);
      due(28, x.visit(0, 0));
      due(63, x.getPapers(0));
    });
  }

  private static void swept() {
    String all = "A sweep takes all papers of persons of whom some sighting was outside last night, unless they are stored.";
    terms(all, "some sighting of a person who was merged since", () -> {
      DoorwayCensus x = Towns.on(0);
      x.visit(0, 0);
      x.ask(0); x.giveBeds();
      x.passNights(1);
      x.merge(0, 1);
      due(1, x.sweep());
      due(0, x.getPapers(0));
    });
    terms(all, "none of the person", () -> {
      DoorwayCensus x = Towns.on(0);
      x.merge(0, 1);
      x.visit(0, 0);
      x.ask(1); x.giveBeds();
      x.passNights(1);
      due(0, x.sweep());
      due(63, x.getPapers(0));
    });
    terms(all, "a night outside is kept with the lowest, so the other part was not when the merge is undone", () -> {
      DoorwayCensus x = Towns.on(0);
      x.visit(0, 0); x.visit(1, 0);
      x.merge(0, 1);
      x.passNights(1);
      x.undoMerge();
      due(1, x.sweep());
      due(0, x.getPapers(0));
      due(63, x.getPapers(1));
    });
    terms(all, "stored stays so: those that come later are too", () -> {
      DoorwayCensus x = Towns.seen(1);
      x.store(0, true);
      x.visit(0, 0);
      x.passNights(1);
      due(0, x.sweep());
      due(true, x.store(0, false));
      due(1, x.sweep());
      due(false, x.store(0, false));
    });
  }

  private static void homesAndFunds() {
    terms("At most 6 homes are numbered from 0", "a rent of 1 to 2000, papers and needs as bits", () -> {
      due(0, new DoorwayCensus().addHome(1, 0, 0));
      due(0, new DoorwayCensus().addHome(2000, 63, 7));
      for (int[] b : new int[][] {{0, 0, 0}, {2001, 0, 0}, {1, 64, 0}, {1, 0, 8}}) {
        due(ARGUMENT, answer(new DoorwayCensus(), x -> x.addHome(b[0], b[1], b[2])));
      }
    });
    terms("At most 4 funds are numbered from 0", "coins of 0 to 99999, homes as bits", () -> {
      due(0, new DoorwayCensus().addFund(0, 0));
      due(0, new DoorwayCensus().addFund(99999, 63));
      for (int[] b : new int[][] {{-1, 0}, {100000, 0}, {0, 64}, {0, -1}}) {
        due(ARGUMENT, answer(new DoorwayCensus(), x -> x.addFund(b[0], b[1])));
      }
    });
  }

  private static void housed() {
    String all = "A person gets a free home for which a fund may pay";
    terms(all, "each condition broken by itself", () -> {
      Build b = () -> {
        DoorwayCensus x = Towns.seen(3);
        x.setPaper(1, 1, 0);
        x.addHome(1, 1, 1); x.addHome(1, 0, 1); x.addFund(0, 1); x.addFund(0, 2);
        x.visit(0, 0); x.visit(2, 0);
        return x;
      };
      due(30, b.make().house(0, 0, 0));
      refuses(UNSUPPORTED, b, x -> x.house(0, 1, 0));
      refuses(UNSUPPORTED, b, x -> x.house(0, 0, 1));
      refuses(UNSUPPORTED, () -> { DoorwayCensus x = b.make(); x.setNeeds(0, 2); return x; }, x -> x.house(0, 0, 0));
      refuses(UNSUPPORTED, () -> { DoorwayCensus x = b.make(); x.house(0, 2, 0); return x; }, x -> x.house(0, 0, 0));
      refuses(UNSUPPORTED, () -> { DoorwayCensus x = b.make(); x.house(1, 0, 1); return x; }, x -> x.house(0, 0, 0));
    });
    terms(all, "a bed of this night is free then, and the person has not asked any more", () -> {
      DoorwayCensus x = Towns.on(0);
      x.ask(0); x.giveBeds();
      x.house(0, 0, 0);
      due(1, x.freeBeds(0));
      due(0, x.mostBeds());
      due(1, x.ask(1));
    });
    terms(all, "papers and needs are asked for on that day alone", () -> {
      DoorwayCensus x = Towns.seen(1);
      x.addHome(1, 63, 0); x.addFund(99, 1);
      x.visit(0, 0);
      x.passNights(1);
      x.house(0, 0, 0);
      due(1, x.sweep());
      x.setNeeds(0, 7);
      x.passNights(60);
      due(0, x.homeOf(0));
    });
  }

  private static void rentDays() {
    String all = "As the day becomes one 30, 60 and so on days later";
    terms(all, "30, 60, 90, 120 days from the first one, whatever that is", () -> {
      for (int first : new int[] {0, 1, 29, 30, 45}) {
        DoorwayCensus x = Towns.seen(1);
        x.addHome(10, 0, 7); x.addFund(40, 1); x.addFund(0, 0);
        Towns.go(x, first);
        x.house(0, 0, 0);
        for (int n = 0; n <= 130; n++) {
          due(sum(0, 0, first, 0, 40 - n / 30 * 10, 0, first + n), x.checksum());
          x.passNights(1);
        }
      }
    });
    terms(all, "by numbers of homes, if it has that: a later, cheaper one is paid", () -> {
      DoorwayCensus x = Towns.seen(3);
      x.addHome(60, 0, 7); x.addHome(50, 0, 7); x.addHome(40, 0, 7);
      x.addFund(100, 7);
      x.house(2, 0, 0); x.house(1, 1, 0); x.house(0, 2, 0);
      x.passNights(30);
      due(0, x.getBehind(0));
      due(1, x.getBehind(1));
      due(0, x.getBehind(2));
    });
    terms(all, "its fund alone, not another one that may pay", () -> {
      DoorwayCensus x = Towns.seen(1);
      x.addHome(10, 0, 7); x.addFund(99999, 1); x.addFund(9, 1);
      x.house(0, 0, 1);
      x.passNights(30);
      due(1, x.getBehind(0));
      due(99989, x.payBehind(0, 0));
    });
    terms(all, "the rent just so, and one coin less", () -> {
      for (int coins = 9; coins <= 11; coins++) {
        DoorwayCensus x = Towns.seen(1);
        x.addHome(10, 0, 7); x.addFund(coins, 1);
        x.house(0, 0, 0);
        x.passNights(30);
        due(coins < 10 ? 1 : 0, x.getBehind(0));
      }
    });
  }

  private static void rentsLost() {
    String all = "As the day becomes one 30, 60 and so on days later";
    terms(all, "behind by 2 is kept, by 3 is lost, and behind by none then", () -> {
      DoorwayCensus x = Towns.on(0);
      x.addFund(0, 1);
      x.house(0, 1, 1);
      Towns.go(x, 89);
      due(2, x.getBehind(0));
      due(0, x.homeOf(1));
      x.passNights(1);
      due(0, x.getBehind(0));
      due(ELEMENT, answer(x, y -> y.homeOf(1)));
      due(120, x.house(0, 0, 0));
    });
    terms(all, "outside from the next night on", () -> {
      DoorwayCensus x = Towns.on(0);
      x.addFund(0, 1);
      x.house(0, 1, 1);
      Towns.go(x, 90);
      due(0, x.nightsOutside(1));
      due(2, x.countIn('o'));
      x.passNights(2);
      due(2, x.nightsOutside(1));
    });
    terms(all, "a home that is lost is not paid for any more", () -> {
      DoorwayCensus x = Towns.on(0);
      x.addFund(9, 1);
      x.house(0, 1, 1);
      Towns.go(x, 90);
      Towns.go(x, 90);
      due(0, x.getBehind(0));
      due(1, x.countReturns());
    });
    terms(all, "kept with another sighting of the person, by a merge since", () -> {
      DoorwayCensus x = Towns.on(0);
      x.addFund(0, 1);
      x.house(0, 1, 1);
      x.merge(0, 1);
      Towns.go(x, 90);
      due(ELEMENT, answer(x, y -> y.homeOf(0)));
      due(1, x.countReturns());
    });
  }

  private static void returnsAndHand() {
    String all = "As the day becomes one 30, 60 and so on days later";
    terms(all, "a return in less than 360 days: 359 cannot be, 330 is, 360 is not", () -> {
      for (int months = 3; months <= 13; months++) {
        DoorwayCensus x = Towns.seen(1);
        x.addHome(1, 0, 7); x.addFund(months - 3, 1);
        x.house(0, 0, 0);
        Towns.go(x, 30 * months);
        due(ELEMENT, answer(x, y -> y.homeOf(0)));
        due(months < 12 ? 1 : 0, x.countReturns());
      }
    });
    String hand = "Rents that are behind can be paid by hand from a fund that may pay for the home.";
    terms(hand, "any that may, until none is behind", () -> {
      DoorwayCensus x = Towns.seen(1);
      x.addHome(10, 0, 7); x.addFund(0, 1); x.addFund(25, 63); x.addFund(25, 62);
      x.house(0, 0, 0);
      x.passNights(60);
      due(UNSUPPORTED, answer(x, y -> y.payBehind(0, 2)));
      due(15, x.payBehind(0, 1));
      due(5, x.payBehind(0, 1));
      due(UNSUPPORTED, answer(x, y -> y.payBehind(0, 1)));
    });
  }

  private static void unseen() {
    terms("of n persons seen at the one, m at the other one, and k at both", "1 and 1 and 0; 2 and 2 and 1; cut", () -> {
      DoorwayCensus x = new DoorwayCensus();
      x.sight(0, 0, 0, 0); x.sight(1, 0, 0, 0);
      due(3, x.estimate(0, 1));
      x.share(0, true); x.share(1, true);
      x.merge(0, 1);
      due(1, x.estimate(0, 1));
      x.sight(0, 0, 0, 0);
      due(2, x.estimate(0, 1));
      x.sight(1, 0, 0, 0);
      due(3, x.estimate(0, 1));
    });
  }

  private static void exceptions() {
    terms("A method that throws an exception changes nothing.", "each exception, in turn, on one town", () -> {
      List<Call> calls = List.of(x -> x.sight(4, 0, 0, 0), x -> x.setNeeds(8, 0), x -> x.setNeeds(0, 8),
          x -> x.setHarm(8, 0, 0), x -> x.setHarm(0, 10, 0), x -> x.share(8, true), x -> x.merge(8, 0), x -> x.merge(0, 1),
          x -> x.getPerson(8), x -> x.getLikeness(0, 8), x -> x.mostLike(8), x -> x.getScore(8), x -> x.setWeights(100, 0),
          x -> x.addShelter(0, 0, 0), x -> x.ban(3, 0, 0), x -> x.ban(0, 0, 366), x -> x.liftBan(3, 4), x -> x.takes(3, 0),
          x -> x.setCold(46), x -> x.isOpen(3), x -> x.ask(8), x -> x.ask(0), x -> x.ask(6), x -> x.bedOf(8),
          x -> x.bedOf(6), x -> x.freeBeds(3), x -> x.notCome(8), x -> x.notCome(6), x -> x.passNights(0),
          x -> x.passNights(61), x -> x.nightsOutside(8), x -> x.setPaper(0, 0, 1), x -> x.setOffice(3, 0),
          x -> x.visit(8, 0), x -> x.visit(0, 3), x -> x.visit(5, 0), x -> x.getPapers(8), x -> x.leastVisits(8, 0),
          x -> x.leastVisits(0, 6), x -> x.earliestDay(8, 0), x -> x.earliestDay(0, 6), x -> x.store(8, true),
          x -> x.addHome(0, 0, 0), x -> x.addFund(-1, 0), x -> x.house(3, 0, 0), x -> x.house(0, 7, 0), x -> x.homeOf(8),
          x -> x.homeOf(0), x -> x.getBehind(3), x -> x.payBehind(3, 0), x -> x.payBehind(1, 0), x -> x.countIn('x'),
          x -> x.estimate(0, 0));
      Call all = x -> {
        List<Object> thrown = new ArrayList<>();
        for (Call call : calls) thrown.add(answer(x, call));
        for (Object t : thrown) if (!(t instanceof Class)) tell("a call that is due to throw answered " + t);
        throw new IllegalStateException();
      };
      refuses(STATE, Towns::lively, all);
    });
    terms("A method that throws an exception changes nothing.", "what is full, with a home that is paid for, on the last day",
        () -> {
          Build paid = () -> { DoorwayCensus x = Towns.full(); x.house(0, 23, 3); x.passNights(1); return x; };
          Build last = () -> { DoorwayCensus x = Towns.full(); Towns.go(x, 2000); return x; };
          for (Build full : new Build[] {paid, last}) {
            refuses(STATE, full, x -> x.sight(0, 0, 0, 0));
            refuses(STATE, full, x -> x.merge(21, 22));
            refuses(STATE, full, x -> x.addShelter(1, 0, 0));
            refuses(STATE, full, x -> x.addHome(1, 0, 0));
            refuses(STATE, full, x -> x.addFund(1, 0));
          }
          refuses(STATE, last, x -> x.passNights(1));
        });
    terms("If several exceptions apply, the one that is listed first is thrown.", "each two that can", () -> {
      Build last = () -> { DoorwayCensus x = Towns.full(); Towns.go(x, 2000); x.house(0, 0, 0); x.setOffice(0, 0); return x; };
      Object[][] due = {
          {ARGUMENT, call(x -> x.sight(4, 0, 0, 0))}, {INDEX, call(x -> x.setNeeds(24, 8))},
          {INDEX, call(x -> x.setHarm(24, 10, 61))}, {INDEX, call(x -> x.merge(24, 24))},
          {INDEX, call(x -> x.merge(0, 24))}, {UNSUPPORTED, call(x -> x.merge(0, 1))},
          {UNSUPPORTED, call(x -> x.merge(21, 21))}, {ARGUMENT, call(x -> x.addShelter(0, 0, 0))},
          {INDEX, call(x -> x.ban(5, 0, 366))}, {INDEX, call(x -> x.ban(0, 24, -1))},
          {ARGUMENT, call(x -> x.passNights(0))}, {ARGUMENT, call(x -> x.passNights(61))},
          {INDEX, call(x -> x.visit(24, 3))}, {INDEX, call(x -> x.visit(24, 0))}, {ARGUMENT, call(x -> x.visit(0, 3))},
          {INDEX, call(x -> x.leastVisits(24, 6))}, {INDEX, call(x -> x.earliestDay(24, 6))},
          {ARGUMENT, call(x -> x.addHome(0, 0, 0))}, {ARGUMENT, call(x -> x.addFund(-1, 0))},
          {INDEX, call(x -> x.house(0, 0, 4))}, {INDEX, call(x -> x.house(6, 0, 0))}, {INDEX, call(x -> x.house(0, 24, 0))},
          {INDEX, call(x -> x.payBehind(0, 4))}, {INDEX, call(x -> x.payBehind(6, 0))}};
      for (Object[] d : due) refuses((Class<?>) d[0], last, (Call) d[1]);
    });
  }

  private static Call call(Call c) { return c; }

  private static void examples() {
    terms("sight(0, 5, 1970, 3) = 0", "the first example", () -> {
      DoorwayCensus x = new DoorwayCensus();
      due(0, x.sight(0, 5, 1970, 3));
      due(1, x.sight(0, 5, 1970, 1));
      due(6, x.getLikeness(0, 1));
      due(2, x.merge(0, 1));
      due(1, x.countPersons());
      due(0, x.addShelter(1, 0, 40));
      due(1, x.ask(1));
      due(1, x.giveBeds());
      due(0, x.bedOf(0));
      due(1, x.passNights(1));
      due(0, x.nightsOutside(0));
    });
    terms("setPaper(1, 1, 1) = 0", "the second example", () -> {
      DoorwayCensus x = new DoorwayCensus();
      due(0, x.setPaper(1, 1, 1));
      due(0, x.sight(0, 1, 0, 0));
      due(2, x.leastVisits(0, 1));
      due(61, x.visit(0, 0));
      due(1, x.passNights(1));
      due(2, x.visit(0, 1));
      due(0, x.addHome(100, 2, 0));
      due(0, x.addFund(150, 1));
      due(31, x.house(0, 0, 0));
      due(1, x.countIn('h'));
    });
  }

  private static void callsOfAnObject() {
    terms("An object is used for at most 512 calls after it has been made", "the 512th is answered", () -> {
      DoorwayCensus x = new DoorwayCensus();
      for (int call = 1; call < 512; call++) due(call <= 24 ? call - 1 : STATE, answer(x, y -> y.sight(0, 0, 0, 0)));
      due(24, x.countPersons());
    });
    terms("An object is used for at most 512 calls after it has been made", "the 512th is as the first, whatever was called", () -> {
      DoorwayCensus x = Towns.full();
      // Towns.full takes 60 calls, and 60 and 3 times 150 are 510.
      for (int n = 0; n < 150; n++) { x.ask(21 + n % 3); x.giveBeds(); x.notCome(21 + n % 3); }
      due(1, x.ask(21));
      due(1, x.giveBeds());
    });
    terms("Nothing is promised beyond the answers and state changes", "what only answers changes nothing", () -> {
      for (Build town : List.<Build>of(Towns::lively, Towns::full, Towns::deserted, Towns::lonely)) {
        same(town, () -> { DoorwayCensus x = town.make(); answers(x); return x; });
      }
    });
  }

  private static void answers(DoorwayCensus x) {
    List<Call> calls = List.of(y -> y.getPerson(1), y -> y.countPersons(), y -> y.getLikeness(0, 1), y -> y.mostLike(0),
        y -> y.getScore(1), y -> y.takes(0, 1), y -> y.isOpen(0), y -> y.bedOf(1), y -> y.freeBeds(0), y -> y.mostBeds(),
        y -> y.nightsOutside(1), y -> y.getPapers(1), y -> y.leastVisits(1, 3), y -> y.earliestDay(1, 3), y -> y.homeOf(1),
        y -> y.getBehind(0), y -> y.countReturns(), y -> y.countIn('b'), y -> y.countIn('h'), y -> y.countIn('o'),
        y -> y.estimate(0, 1), y -> y.homeShare(), y -> y.meanNights(), y -> y.checksum(), y -> y.isSound());
    for (Call call : calls) answer(x, call);
  }
}
