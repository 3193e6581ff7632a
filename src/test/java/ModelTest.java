import java.util.ArrayDeque;
import java.util.ArrayList;
import java.util.Arrays;
import java.util.HashSet;
import java.util.List;
import java.util.NoSuchElementException;
import java.util.Random;
import java.util.Set;
import java.util.TreeMap;
import java.util.TreeSet;

/** Runs of 512 calls, the same ones each time, on the class and on a plain model of the document. */
public final class ModelTest {
  /** The document once more, by sets and searches, without regard to speed. */
  static final class Model {
    record Ban(int shelter, int sighting, int until) {}
    record Merge(int one, int other) {}
    static final class Seen {
      int door, name, year, look, needs, harm, years, papers, nights, visited = -1, bed = -1, home = -1;
      boolean shared, asked, stored, out;
    }
    final List<Seen> seen = new ArrayList<>();
    final ArrayDeque<Merge> merges = new ArrayDeque<>();
    final List<Ban> bans = new ArrayList<>();
    final List<int[]> shelters = new ArrayList<>();
    final List<int[]> homes = new ArrayList<>();
    final List<int[]> funds = new ArrayList<>();
    final int[] office = new int[6], needed = new int[6], open = {127, 127, 127};
    int weightHarm = 1, weightYears = 1, cold, day, returns;

    static void check(boolean holds, RuntimeException e) { if (!holds) throw e; }
    static RuntimeException index() { return new IndexOutOfBoundsException(); }
    static RuntimeException argument() { return new IllegalArgumentException(); }
    static RuntimeException state() { return new IllegalStateException(); }
    static RuntimeException unsupported() { return new UnsupportedOperationException(); }
    static RuntimeException element() { return new NoSuchElementException(); }
    static boolean in(int v, int lo, int hi) { return v >= lo && v <= hi; }
    void there(int s) { check(in(s, 0, seen.size() - 1), index()); }
    void there(int i, List<?> of) { check(in(i, 0, of.size() - 1), index()); }

    TreeSet<Integer> group(int s) {
      TreeSet<Integer> all = new TreeSet<>(List.of(s));
      for (boolean grew = true; grew;) {
        grew = false;
        for (Merge m : merges) {
          if (all.contains(m.one) && all.add(m.other)) grew = true;
          if (all.contains(m.other) && all.add(m.one)) grew = true;
        }
      }
      return all;
    }
    TreeMap<Integer, List<Seen>> persons() {
      TreeMap<Integer, List<Seen>> all = new TreeMap<>();
      for (int s = 0; s < seen.size(); s++) all.computeIfAbsent(group(s).first(), k -> new ArrayList<>()).add(seen.get(s));
      return all;
    }
    List<Seen> of(int s) { List<Seen> l = new ArrayList<>(); for (int i : group(s)) l.add(seen.get(i)); return l; }
    static boolean asked(List<Seen> p) { return p.stream().anyMatch(s -> s.asked); }
    static int bed(List<Seen> p) { return p.stream().mapToInt(s -> s.bed).max().orElse(-1); }
    static int home(List<Seen> p) { return p.stream().mapToInt(s -> s.home).max().orElse(-1); }
    static int papers(List<Seen> p) { return p.stream().mapToInt(s -> s.papers).reduce(0, (a, b) -> a | b); }
    static int needs(List<Seen> p) { return p.stream().mapToInt(s -> s.needs).reduce(0, (a, b) -> a | b); }
    static int nights(List<Seen> p) { return p.stream().mapToInt(s -> s.nights).sum(); }
    boolean visited(List<Seen> p) { return p.stream().anyMatch(s -> s.visited == day); }
    static boolean stored(List<Seen> p) { return p.stream().anyMatch(s -> s.stored); }
    int score(List<Seen> p) {
      return weightHarm * p.stream().mapToInt(s -> s.harm).max().orElse(0)
          + weightYears * p.stream().mapToInt(s -> s.years).max().orElse(0);
    }
    boolean banned(int shelter, List<Seen> p) {
      return bans.stream().anyMatch(b -> b.shelter == shelter && b.until >= day && p.contains(seen.get(b.sighting)));
    }
    boolean taken(int shelter, List<Seen> p) {
      int n = needs(p), t = shelters.get(shelter)[1];
      for (int bit = 1; bit < 8; bit *= 2) if ((n & bit) != 0 && (t & bit) == 0) return false;
      return !banned(shelter, p);
    }
    boolean opens(int shelter) { return !(cold > shelters.get(shelter)[2]); }
    int free(int shelter) {
      int f = shelters.get(shelter)[0];
      for (Seen s : seen) if (s.bed == shelter) f--;
      return f;
    }
    List<Integer> queue() {
      TreeMap<Integer, List<Seen>> all = persons();
      List<Integer> q = new ArrayList<>();
      for (int p : all.keySet()) if (asked(all.get(p)) && bed(all.get(p)) < 0) q.add(p);
      q.sort((a, b) -> score(all.get(a)) != score(all.get(b)) ? score(all.get(b)) - score(all.get(a)) : a - b);
      return q;
    }
    static void place(List<Seen> p, int shelter) { for (Seen s : p) if (s.asked) s.bed = shelter; }
    static void leave(List<Seen> p) { for (Seen s : p) { s.asked = false; s.bed = -1; } }

    int sight(int door, int name, int year, int look) {
      check(in(door, 0, 3) && in(name, 0, 99) && (year == 0 || in(year, 1930, 2020)) && in(look, 0, 9), argument());
      check(seen.size() < 24, state());
      Seen s = new Seen();
      s.door = door; s.name = name; s.year = year; s.look = look;
      seen.add(s);
      return seen.size() - 1;
    }
    int setNeeds(int s, int needs) {
      there(s); check(in(needs, 0, 7), argument());
      int b = seen.get(s).needs; seen.get(s).needs = needs; return b;
    }
    int setHarm(int s, int harm, int years) {
      there(s); check(in(harm, 0, 9) && in(years, 0, 60), argument());
      int b = seen.get(s).harm; seen.get(s).harm = harm; seen.get(s).years = years; return b;
    }
    boolean share(int s, boolean is) { there(s); boolean b = seen.get(s).shared; seen.get(s).shared = is; return b; }
    int merge(int s, int o) {
      there(s); there(o);
      Seen a = seen.get(s), b = seen.get(o);
      List<Seen> p = of(s), q = of(o);
      check(!p.contains(b) && (a.door == b.door || a.shared && b.shared), unsupported());
      Set<Integer> years = new HashSet<>();
      for (Seen t : p) if (t.year != 0) years.add(t.year);
      for (Seen t : q) if (t.year != 0) years.add(t.year);
      check(years.size() < 2, unsupported());
      check(!(asked(p) && asked(q)) && !(home(p) >= 0 && home(q) >= 0), unsupported());
      check(!(home(p) >= 0 && asked(q)) && !(asked(p) && home(q) >= 0), unsupported());
      check(merges.size() < 20, state());
      merges.push(new Merge(s, o));
      return p.size() + q.size();
    }
    int undoMerge() { check(!merges.isEmpty(), state()); merges.pop(); return merges.size(); }
    int getPerson(int s) { there(s); return group(s).first(); }
    int countPersons() { return persons().size(); }
    int getLikeness(int s, int o) {
      there(s); there(o);
      Seen a = seen.get(s), b = seen.get(o);
      int years = a.year == 0 || b.year == 0 ? 0 : a.year == b.year ? 3 : -4;
      return (a.name == b.name ? 4 : 0) + years + (a.look == b.look ? 2 : -1);
    }
    int mostLike(int s) {
      there(s);
      Set<Integer> own = group(s);
      int best = -1;
      for (int o = seen.size() - 1; o >= 0; o--)
        if (!own.contains(o) && (best < 0 || getLikeness(s, o) >= getLikeness(s, best))) best = o;
      check(best >= 0, element());
      return best;
    }
    int getScore(int s) { there(s); return score(of(s)); }
    int setWeights(int harm, int years) {
      check(in(harm, 0, 99) && in(years, 0, 99), argument());
      int b = weightHarm; weightHarm = harm; weightYears = years; return b;
    }
    int addShelter(int beds, int takes, int degrees) {
      check(in(beds, 1, 9) && in(takes, 0, 7) && in(degrees, -30, 40), argument());
      check(shelters.size() < 5, state());
      shelters.add(new int[] {beds, takes, degrees});
      return shelters.size() - 1;
    }
    int ban(int h, int s, int days) {
      there(h, shelters); there(s); check(in(days, 0, 365), argument());
      bans.add(new Ban(h, s, day + days));
      return day + days;
    }
    boolean liftBan(int h, int s) {
      there(h, shelters); there(s);
      boolean b = banned(h, of(s));
      Set<Integer> own = group(s);
      bans.removeIf(x -> x.shelter == h && own.contains(x.sighting));
      return b;
    }
    boolean takes(int h, int s) { there(h, shelters); there(s); return taken(h, of(s)); }
    int setCold(int c) { check(in(c, -40, 45), argument()); int b = cold; cold = c; return b; }
    boolean isOpen(int h) { there(h, shelters); return opens(h); }
    int ask(int s) {
      there(s); check(!asked(of(s)) && home(of(s)) < 0, unsupported());
      seen.get(s).asked = true;
      return (int) persons().values().stream().filter(Model::asked).count();
    }
    int giveBeds() {
      int given = 0;
      for (int p : queue()) {
        int best = -1;
        for (int h = 0; h < shelters.size(); h++)
          if (opens(h) && taken(h, of(p)) && free(h) > 0 && (best < 0 || free(h) > free(best))) best = h;
        if (best >= 0) { place(of(p), best); given++; }
      }
      return given;
    }
    int bedOf(int s) { there(s); check(bed(of(s)) >= 0, element()); return bed(of(s)); }
    int freeBeds(int h) { there(h, shelters); return free(h); }
    int notCome(int s) {
      there(s);
      int h = bed(of(s));
      check(h >= 0, element());
      leave(of(s));
      if (opens(h)) for (int p : queue()) if (taken(h, of(p))) { place(of(p), h); return p; }
      return -1;
    }
    int mostBeds() {
      List<List<Seen>> askers = new ArrayList<>();
      for (List<Seen> p : persons().values()) if (asked(p)) askers.add(p);
      int[] bedHolder = new int[5 * 9];
      Arrays.fill(bedHolder, -1);
      int most = 0;
      for (int a = 0; a < askers.size(); a++) if (seat(a, askers, bedHolder, new boolean[45])) most++;
      return most;
    }
    private boolean seat(int a, List<List<Seen>> askers, int[] holder, boolean[] tried) {
      for (int h = 0; h < shelters.size(); h++) {
        if (!opens(h) || !taken(h, askers.get(a))) continue;
        for (int b = 0; b < shelters.get(h)[0]; b++) {
          int bed = h * 9 + b;
          if (tried[bed]) continue;
          tried[bed] = true;
          if (holder[bed] < 0 || seat(holder[bed], askers, holder, tried)) { holder[bed] = a; return true; }
        }
      }
      return false;
    }
    int passNights(int nights) {
      check(in(nights, 1, 60), argument());
      check(day + nights <= 2000, state());
      for (int n = 0; n < nights; n++) night();
      return day;
    }
    private void night() {
      for (Seen s : seen) s.out = false;
      for (List<Seen> p : persons().values())
        if (bed(p) < 0 && home(p) < 0) { p.get(0).nights++; p.get(0).out = true; }
      leave(seen);
      day++;
      for (int h = 0; h < homes.size(); h++) {
        int[] home = homes.get(h);
        Seen who = null;
        for (Seen s : seen) if (s.home == h) who = s;
        if (who == null) continue;
        for (int due = home[4] + 30; due <= day; due += 30) {
          if (due != day) continue;
          int[] fund = funds.get(home[3]);
          if (fund[0] >= home[0]) fund[0] -= home[0]; else home[5]++;
          if (home[5] == 3) { home[5] = 0; who.home = -1; if (day < home[4] + 360) returns++; }
        }
      }
    }
    int nightsOutside(int s) { there(s); return nights(of(s)); }
    int setPaper(int p, int o, int n) {
      check(in(p, 0, 5) && in(o, 0, 2) && in(n, 0, 63), argument());
      check((n & 1 << p) == 0, argument());
      int b = office[p]; office[p] = o; needed[p] = n; return b;
    }
    int setOffice(int o, int days) {
      check(in(o, 0, 2) && in(days, 0, 127), argument());
      int b = open[o]; open[o] = days; return b;
    }
    int coming(int held, int o) {
      int got = 0;
      for (int p = 0; p < 6; p++) {
        int now = held | got;
        if ((now & 1 << p) == 0 && office[p] == o && (needed[p] & now) == needed[p]) { got |= 1 << p; p = -1; }
      }
      return got;
    }
    int visit(int s, int o) {
      there(s); check(in(o, 0, 2), argument());
      check((open[o] & 1 << day % 7) != 0 && !visited(of(s)), unsupported());
      int got = coming(papers(of(s)), o);
      seen.get(s).papers |= got; seen.get(s).visited = day;
      return got;
    }
    int getPapers(int s) { there(s); return papers(of(s)); }
    int leastVisits(int s, int p) {
      there(s); check(in(p, 0, 5), argument());
      return fewest(papers(of(s)), p, 7);
    }
    private int fewest(int held, int p, int depth) {
      if ((held & 1 << p) != 0) return 0;
      int best = -1;
      for (int o = 0; o < 3 && depth > 0; o++) {
        int got = coming(held, o);
        if (got == 0) continue;
        int rest = fewest(held | got, p, depth - 1);
        if (rest >= 0 && (best < 0 || rest + 1 < best)) best = rest + 1;
      }
      return best;
    }
    int earliestDay(int s, int p) {
      there(s); check(in(p, 0, 5), argument());
      int held = papers(of(s));
      if ((held & 1 << p) != 0) return day;
      Set<Integer> can = new HashSet<>(List.of(held));
      for (int d = day; d < day + 60; d++) {
        if (d == day && visited(of(s))) continue;
        for (int set : new ArrayList<>(can))
          for (int o = 0; o < 3; o++) if ((open[o] & 1 << d % 7) != 0) can.add(set | coming(set, o));
        for (int set : can) if ((set & 1 << p) != 0) return d;
      }
      return -1;
    }
    boolean store(int s, boolean is) {
      there(s);
      boolean b = stored(of(s));
      if (is) seen.get(s).stored = true; else for (Seen t : of(s)) t.stored = false;
      return b;
    }
    int sweep() {
      int losing = 0;
      for (List<Seen> p : persons().values())
        if (p.stream().anyMatch(s -> s.out) && !stored(p) && papers(p) != 0) {
          for (Seen s : p) s.papers = 0;
          losing++;
        }
      return losing;
    }
    int addHome(int rent, int papers, int takes) {
      check(in(rent, 1, 2000) && in(papers, 0, 63) && in(takes, 0, 7), argument());
      check(homes.size() < 6, state());
      homes.add(new int[] {rent, papers, takes, -1, 0, 0});
      return homes.size() - 1;
    }
    int addFund(int coins, int may) {
      check(in(coins, 0, 99999) && in(may, 0, 63), argument());
      check(funds.size() < 4, state());
      funds.add(new int[] {coins, may});
      return funds.size() - 1;
    }
    int house(int h, int s, int f) {
      there(h, homes); there(s); there(f, funds);
      int[] home = homes.get(h);
      check(seen.stream().noneMatch(t -> t.home == h), unsupported());
      check(home(of(s)) < 0 && (papers(of(s)) & home[1]) == home[1], unsupported());
      check((needs(of(s)) | home[2]) == home[2] && (funds.get(f)[1] & 1 << h) != 0, unsupported());
      leave(of(s));
      seen.get(s).home = h; home[3] = f; home[4] = day;
      return day + 30;
    }
    int homeOf(int s) { there(s); check(home(of(s)) >= 0, element()); return home(of(s)); }
    int getBehind(int h) { there(h, homes); return homes.get(h)[5]; }
    int payBehind(int h, int f) {
      there(h, homes); there(f, funds);
      int[] home = homes.get(h), fund = funds.get(f);
      check(home[5] > 0 && (fund[1] & 1 << h) != 0 && fund[0] >= home[0], unsupported());
      home[5]--;
      return fund[0] -= home[0];
    }
    int countReturns() { return returns; }
    int countIn(char w) {
      check(w == 'b' || w == 'h' || w == 'o', argument());
      int n = 0;
      for (List<Seen> p : persons().values()) if (w == (bed(p) >= 0 ? 'b' : home(p) >= 0 ? 'h' : 'o')) n++;
      return n;
    }
    int estimate(int d, int o) {
      check(in(d, 0, 3) && in(o, 0, 3) && d != o, argument());
      int n = 1, m = 1, k = 1;
      for (List<Seen> p : persons().values()) {
        boolean a = p.stream().anyMatch(s -> s.door == d), b = p.stream().anyMatch(s -> s.door == o);
        if (a) n++;
        if (b) m++;
        if (a && b) k++;
      }
      return n * m / k - 1;
    }
    float homeShare() {
      check(!seen.isEmpty(), new ArithmeticException());
      return (float) countIn('h') / (float) countPersons();
    }
    double meanNights() {
      check(!seen.isEmpty(), new ArithmeticException());
      return (double) nights(seen) / (double) countPersons();
    }
    long checksum() {
      List<Long> parts = new ArrayList<>();
      persons().forEach((p, l) -> parts.addAll(List.of((long) p, (long) papers(l), (long) nights(l))));
      for (int[] h : homes) parts.add((long) h[5]);
      for (int[] f : funds) parts.add((long) f[0]);
      parts.add((long) day);
      long c = 7;
      for (long part : parts) c = c * 31 + part;
      return c;
    }
    boolean isSound() {
      boolean sound = countIn('b') + countIn('h') + countIn('o') == countPersons();
      for (int h = 0; h < shelters.size(); h++) sound &= free(h) >= 0;
      return sound;
    }
  }

  private interface Call { Object run(); }

  private static Object answer(Call c) {
    try { return c.run(); } catch (RuntimeException e) { return e.getClass().getSimpleName(); }
  }

  private static Random random;
  private static int wild;
  private static int pick(int n) {
    if (random.nextInt(100) < wild) return new int[] {-1, n, n + 1, Integer.MAX_VALUE, Integer.MIN_VALUE}[random.nextInt(5)];
    return random.nextInt(n);
  }
  private static int near(int count, int most) { return pick(count == 0 ? 1 : Math.min(count, most)); }
  private static boolean coin() { return random.nextBoolean(); }
  private static int year() { return random.nextInt(3) > 0 ? 0 : random.nextInt(40) == 0 ? pick(4000) : 1950 + random.nextInt(2); }

  private static String told;
  private static Object[] both(String name, Call real, Call model) {
    told = name;
    return new Object[] {answer(real), answer(model)};
  }

  private static Object[] step(DoorwayCensus x, Model m, int op) {
    int n = m.seen.size(), s = near(n, 24), o = near(n, 24), h = near(m.shelters.size(), 5);
    int e = near(m.homes.size(), 6), f = near(m.funds.size(), 4), p = pick(6), i = pick(3);
    switch (op) {
      case 0: { int d = pick(random.nextInt(3) == 0 ? 4 : 1), a = pick(4), y = year(), l = pick(3);
        return both("sight(" + d + "," + a + "," + y + "," + l + ")", () -> x.sight(d, a, y, l), () -> m.sight(d, a, y, l)); }
      case 1: { int v = random.nextInt(3) == 0 ? pick(8) : 0; return both("setNeeds(" + s + "," + v + ")", () -> x.setNeeds(s, v), () -> m.setNeeds(s, v)); }
      case 2: { int v = pick(10), w = pick(61); return both("setHarm(" + s + "," + v + "," + w + ")", () -> x.setHarm(s, v, w), () -> m.setHarm(s, v, w)); }
      case 3: { boolean b = random.nextInt(4) > 0; return both("share(" + s + "," + b + ")", () -> x.share(s, b), () -> m.share(s, b)); }
      case 4: return both("merge(" + s + "," + o + ")", () -> x.merge(s, o), () -> m.merge(s, o));
      case 5: return both("undoMerge()", () -> x.undoMerge(), () -> m.undoMerge());
      case 6: return both("getPerson(" + s + ")", () -> x.getPerson(s), () -> m.getPerson(s));
      case 7: return both("countPersons()", () -> x.countPersons(), () -> m.countPersons());
      case 8: return both("getLikeness(" + s + "," + o + ")", () -> x.getLikeness(s, o), () -> m.getLikeness(s, o));
      case 9: return both("mostLike(" + s + ")", () -> x.mostLike(s), () -> m.mostLike(s));
      case 10: return both("getScore(" + s + ")", () -> x.getScore(s), () -> m.getScore(s));
      case 11: { int v = pick(100), w = pick(100); return both("setWeights(" + v + "," + w + ")", () -> x.setWeights(v, w), () -> m.setWeights(v, w)); }
      case 12: { int b = pick(3) + 1, t = coin() ? 7 : pick(8), d = coin() ? pick(71) - 30 : pick(41); return both("addShelter(" + b + "," + t + "," + d + ")", () -> x.addShelter(b, t, d), () -> m.addShelter(b, t, d)); }
      case 13: { int d = coin() ? pick(4) : pick(366); return both("ban(" + h + "," + s + "," + d + ")", () -> x.ban(h, s, d), () -> m.ban(h, s, d)); }
      case 14: return both("liftBan(" + h + "," + s + ")", () -> x.liftBan(h, s), () -> m.liftBan(h, s));
      case 15: return both("takes(" + h + "," + s + ")", () -> x.takes(h, s), () -> m.takes(h, s));
      case 16: { int c = random.nextInt(4) == 0 ? pick(86) - 40 : random.nextInt(20) - 15; return both("setCold(" + c + ")", () -> x.setCold(c), () -> m.setCold(c)); }
      case 17: return both("isOpen(" + h + ")", () -> x.isOpen(h), () -> m.isOpen(h));
      case 18: return both("ask(" + s + ")", () -> x.ask(s), () -> m.ask(s));
      case 19: return both("giveBeds()", () -> x.giveBeds(), () -> m.giveBeds());
      case 20: return both("bedOf(" + s + ")", () -> x.bedOf(s), () -> m.bedOf(s));
      case 21: return both("freeBeds(" + h + ")", () -> x.freeBeds(h), () -> m.freeBeds(h));
      case 22: return both("notCome(" + s + ")", () -> x.notCome(s), () -> m.notCome(s));
      case 23: return both("mostBeds()", () -> x.mostBeds(), () -> m.mostBeds());
      case 24: { int v = random.nextInt(4) == 0 ? pick(61) : random.nextInt(5) == 0 ? 30 : 1 + pick(2); return both("passNights(" + v + ")", () -> x.passNights(v), () -> m.passNights(v)); }
      case 25: return both("nightsOutside(" + s + ")", () -> x.nightsOutside(s), () -> m.nightsOutside(s));
      case 26: { int v = pick(64) & pick(64) & (coin() ? 63 : pick(64)); return both("setPaper(" + p + "," + i + "," + v + ")", () -> x.setPaper(p, i, v), () -> m.setPaper(p, i, v)); }
      case 27: { int v = pick(128) | (coin() ? 0 : pick(128)); return both("setOffice(" + i + "," + v + ")", () -> x.setOffice(i, v), () -> m.setOffice(i, v)); }
      case 28: return both("visit(" + s + "," + i + ")", () -> x.visit(s, i), () -> m.visit(s, i));
      case 29: return both("getPapers(" + s + ")", () -> x.getPapers(s), () -> m.getPapers(s));
      case 30: return both("leastVisits(" + s + "," + p + ")", () -> x.leastVisits(s, p), () -> m.leastVisits(s, p));
      case 31: return both("earliestDay(" + s + "," + p + ")", () -> x.earliestDay(s, p), () -> m.earliestDay(s, p));
      case 32: { boolean b = coin(); return both("store(" + s + "," + b + ")", () -> x.store(s, b), () -> m.store(s, b)); }
      case 33: return both("sweep()", () -> x.sweep(), () -> m.sweep());
      case 34: { int r = coin() ? pick(2001) : 1 + pick(50), v = coin() ? 0 : pick(64) & pick(64), t = coin() ? 7 : pick(8); return both("addHome(" + r + "," + v + "," + t + ")", () -> x.addHome(r, v, t), () -> m.addHome(r, v, t)); }
      case 35: { int c = random.nextInt(5) == 0 ? pick(100000) : pick(200), v = pick(64) | pick(64); return both("addFund(" + c + "," + v + ")", () -> x.addFund(c, v), () -> m.addFund(c, v)); }
      case 36: return both("house(" + e + "," + s + "," + f + ")", () -> x.house(e, s, f), () -> m.house(e, s, f));
      case 37: return both("homeOf(" + s + ")", () -> x.homeOf(s), () -> m.homeOf(s));
      case 38: return both("getBehind(" + e + ")", () -> x.getBehind(e), () -> m.getBehind(e));
      case 39: return both("payBehind(" + e + "," + f + ")", () -> x.payBehind(e, f), () -> m.payBehind(e, f));
      case 40: return both("countReturns()", () -> x.countReturns(), () -> m.countReturns());
      case 41: { char c = random.nextInt(10) == 0 ? (char) random.nextInt(300) : "bho".charAt(random.nextInt(3)); return both("countIn(" + (int) c + ")", () -> x.countIn(c), () -> m.countIn(c)); }
      case 42: { int d = pick(4), v = pick(4); return both("estimate(" + d + "," + v + ")", () -> x.estimate(d, v), () -> m.estimate(d, v)); }
      case 43: return both("homeShare()", () -> x.homeShare(), () -> m.homeShare());
      case 44: return both("meanNights()", () -> x.meanNights(), () -> m.meanNights());
      case 45: return both("checksum()", () -> x.checksum(), () -> m.checksum());
      default: return both("isSound()", () -> x.isSound(), () -> m.isSound());
    }
  }

  private static final int OPS = 47;

  /** Each run dwells on some calls of its own, so that towns differ. */
  private static int[] weights() {
    int[] w = new int[OPS];
    for (int op = 0; op < OPS; op++) w[op] = 1 + random.nextInt(3) * random.nextInt(4);
    for (int op : new int[] {0, 4, 18}) w[op] += random.nextInt(12);
    for (int op : new int[] {5, 19, 24, 28, 36}) w[op] += random.nextInt(6);
    if (coin()) {
      for (int op : new int[] {18, 19, 20, 22, 23}) w[op] += random.nextInt(20);
      w[24] = random.nextInt(3);
    }
    if (coin()) for (int op : new int[] {24, 36, 39}) w[op] += random.nextInt(20);
    return w;
  }

  /** Two runs of three begin with a town that has some of all. */
  private static final int[] OPENING = {0, 0, 0, 0, 0, 0, 0, 0, 0, 0, 12, 12, 12, 34, 34, 34, 35, 35, 26, 26, 16};

  private static int choose(int[] w) {
    int left = random.nextInt(Arrays.stream(w).sum());
    for (int op = 0; op < w.length; op++) { left -= w[op]; if (left < 0) return op; }
    return w.length - 1;
  }

  private static boolean run(int seed, int[][] tally) {
    random = new Random(seed);
    wild = seed % 4 == 0 ? 10 : seed % 2;
    DoorwayCensus x = new DoorwayCensus();
    Model m = new Model();
    int[] w = weights();
    StringBuilder story = new StringBuilder();
    for (int call = 0; call < 512; call++) {
      int op = seed % 3 != 0 && call < OPENING.length ? OPENING[call] : choose(w);
      Object[] a = step(x, m, op);
      story.append(told).append(" = ").append(a[1]).append("; ");
      tally[op][a[1] instanceof String ? 1 : 0]++;
      if (!a[0].equals(a[1])) {
        System.out.println("seed " + seed + ": " + story + "\n  the last one answered " + a[0]);
        return false;
      }
    }
    return true;
  }

  public static void main(String[] args) {
    int runs = args.length > 0 ? Integer.parseInt(args[0]) : 300;
    int wrong = 0;
    int[][] tally = new int[OPS][2];
    for (int seed = 1; seed <= runs && wrong < 3; seed++) if (!run(seed, tally)) wrong++;
    if (args.length > 1) for (int op = 0; op < OPS; op++) System.out.println(op + " answers " + tally[op][0] + ", exceptions " + tally[op][1]);
    System.out.println(wrong == 0 ? "ModelTest: " + runs + " runs as due" : "ModelTest: not as due");
    if (wrong != 0) System.exit(1);
  }
}
