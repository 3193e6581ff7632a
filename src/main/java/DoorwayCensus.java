import java.util.NoSuchElementException;

/** A town's sightings, persons, shelters, nights, papers, homes and funds, as ../shared/DOC.md tells them. */
public final class DoorwayCensus {
    private static final int NONE = -1;
    private static final int MOST_SIGHTINGS = 24;
    private static final int MOST_MERGES = 20;
    private static final int MOST_SHELTERS = 5;
    private static final int MOST_HOMES = 6;
    private static final int MOST_FUNDS = 4;
    private static final int DOORS = 4;
    private static final int PAPERS = 6;
    private static final int PAPER_SETS = 64;
    private static final int OFFICES = 3;
    private static final int ALL_OFFICES = 7;
    private static final int ALL_PAPERS = 63;
    private static final int ALL_NEEDS = 7;
    private static final int ALL_HOMES = 63;
    private static final int EVERY_DAY = 127;
    private static final int WEEK = 7;
    private static final int DAYS_AHEAD = 60;
    private static final int LAST_DAY = 2000;
    private static final int RENT_DAYS = 30;
    private static final int BEHIND_LOST = 3;
    private static final int RETURN_DAYS = 360;
    private static final int ABOVE_ALL_SCORES = 1000000;

    private final Sighting[] sightings = new Sighting[MOST_SIGHTINGS];
    private int sightingCount = 0;
    private final int[][] personsBefore = new int[MOST_MERGES][MOST_SIGHTINGS];
    private int mergeCount = 0;
    private int harmWeight = 1;
    private int yearsWeight = 1;
    private final Shelter[] shelters = new Shelter[MOST_SHELTERS];
    private int shelterCount = 0;
    private int cold = 0;
    private int day = 0;
    private final Offices offices = new Offices();
    private final Home[] homes = new Home[MOST_HOMES];
    private int homeCount = 0;
    private final Fund[] funds = new Fund[MOST_FUNDS];
    private int fundCount = 0;
    private int returnCount = 0;

    /** One sighting, with what is kept with it of its person. */
    private static final class Sighting {
        int person;
        int door = 0;
        int name = 0;
        int year = 0;
        int look = 0;
        int needs = 0;
        int harm = 0;
        int years = 0;
        boolean shared = false;
        boolean asked = false;
        int bed = NONE;
        int home = NONE;
        int papers = 0;
        int lastVisit = NONE;
        boolean stored = false;
        int nights = 0;
        boolean wasOutside = false;
        /** Used by mostBeds alone: the shelters of which the person could have a bed, as bits. */
        int choices = 0;
        final int[] bannedUntil = new int[MOST_SHELTERS];

        Sighting(int number) {
            person = number;
            for (int shelter = 0; shelter < MOST_SHELTERS; shelter++) {
                bannedUntil[shelter] = NONE;
            }
        }
    }

    private static final class Shelter {
        int beds = 0;
        int taken = 0;
        int degrees = 0;
    }

    private static final class Home {
        int rent = 0;
        int papers = 0;
        int taken = 0;
        int fund = NONE;
        int firstDay = 0;
        int behind = 0;
    }

    private static final class Fund {
        int coins = 0;
        int homes = 0;
    }

    /** Where and when papers are got, and what they need; many sets of papers at once are the bits of a long. */
    private static final class Offices {
        final int[] officeOf = new int[PAPERS];
        final int[] needed = new int[PAPERS];
        final int[] openDays = new int[OFFICES];

        Offices() {
            for (int office = 0; office < OFFICES; office++) {
                openDays[office] = EVERY_DAY;
            }
        }

        int openOn(int someDay) {
            int open = 0;
            for (int office = 0; office < OFFICES; office++) {
                if ((openDays[office] >> Math.floorMod(someDay, WEEK) & 1) != 0) {
                    open |= 1 << office;
                }
            }
            return open;
        }

        int heldAfterVisit(int held, int office) {
            int now = held;
            for (int round = 0; round < PAPERS; round++) {
                int before = now;
                for (int paper = 0; paper < PAPERS; paper++) {
                    if (officeOf[paper] == office && (needed[paper] & ~now) == 0) {
                        now |= 1 << paper;
                    }
                }
                if (now == before) {
                    break;
                }
            }
            return now;
        }

        /** The sets that may be held if those of the given sets visit one of the given offices, or none. */
        long setsAfterVisit(long sets, int visited) {
            long after = sets;
            for (int held = 0; held < PAPER_SETS; held++) {
                if ((sets >>> held & 1L) == 0L) {
                    continue;
                }
                for (int office = 0; office < OFFICES; office++) {
                    if ((visited >> office & 1) != 0) {
                        after |= 1L << heldAfterVisit(held, office);
                    }
                }
            }
            return after;
        }

        boolean someHolds(long sets, int paper) {
            for (int held = 0; held < PAPER_SETS; held++) {
                if ((sets >>> held & 1L) != 0L && (held >> paper & 1) != 0) {
                    return true;
                }
            }
            return false;
        }

        int fewestVisits(int held, int paper) {
            long sets = 1L << held;
            for (int visits = 0; visits <= PAPERS; visits++) {
                if (someHolds(sets, paper)) {
                    return visits;
                }
                sets = setsAfterVisit(sets, ALL_OFFICES);
            }
            return NONE;
        }

        /** The first day on which the paper can be held, by visits on the days from first to last. */
        int firstDayWith(int held, int paper, int first, int last) {
            long sets = 1L << held;
            int quietDays = 0;
            for (int someDay = first; someDay <= last; someDay++) {
                long after = setsAfterVisit(sets, openOn(someDay));
                if (someHolds(after, paper)) {
                    return someDay;
                }
                quietDays = after == sets ? quietDays + 1 : 0;
                // The offices open by the week, so that a week without gain is followed by such weeks alone.
                if (quietDays >= WEEK) {
                    return NONE;
                }
                sets = after;
            }
            return NONE;
        }
    }

    /** Creates a town without sightings, shelters and homes, on the day 0. */
    public DoorwayCensus() {
        for (int s = 0; s < MOST_SIGHTINGS; s++) {
            sightings[s] = new Sighting(s);
        }
        for (int s = 0; s < MOST_SHELTERS; s++) {
            shelters[s] = new Shelter();
        }
        for (int h = 0; h < MOST_HOMES; h++) {
            homes[h] = new Home();
        }
        for (int f = 0; f < MOST_FUNDS; f++) {
            funds[f] = new Fund();
        }
    }

    // Sightings and persons

    public int sight(int door, int name, int year, int look) throws IllegalArgumentException, IllegalStateException {
        boolean yearFits = year == 0 || isWithin(year, 1930, 2020);
        if (!isDoor(door) || !isWithin(name, 0, 99) || !yearFits || !isWithin(look, 0, 9)) {
            throw new IllegalArgumentException();
        }
        if (sightingCount >= MOST_SIGHTINGS) {
            throw new IllegalStateException();
        }
        int number = sightingCount;
        Sighting sighting = sightings[number];
        sighting.door = door;
        sighting.name = name;
        sighting.year = year;
        sighting.look = look;
        sightingCount = number + 1;
        return number;
    }

    public int setNeeds(int sighting, int needs) throws IndexOutOfBoundsException, IllegalArgumentException {
        if (!isSighting(sighting)) {
            throw new IndexOutOfBoundsException();
        }
        if (!isWithin(needs, 0, ALL_NEEDS)) {
            throw new IllegalArgumentException();
        }
        int before = sightings[sighting].needs;
        sightings[sighting].needs = needs;
        return before;
    }

    public int setHarm(int sighting, int harm, int years) throws IndexOutOfBoundsException, IllegalArgumentException {
        if (!isSighting(sighting)) {
            throw new IndexOutOfBoundsException();
        }
        if (!isWithin(harm, 0, 9) || !isWithin(years, 0, 60)) {
            throw new IllegalArgumentException();
        }
        int before = sightings[sighting].harm;
        sightings[sighting].harm = harm;
        sightings[sighting].years = years;
        return before;
    }

    public boolean share(int sighting, boolean is) throws IndexOutOfBoundsException {
        if (!isSighting(sighting)) {
            throw new IndexOutOfBoundsException();
        }
        boolean before = sightings[sighting].shared;
        sightings[sighting].shared = is;
        return before;
    }

    public int merge(int sighting, int other)
            throws IndexOutOfBoundsException, UnsupportedOperationException, IllegalStateException {
        if (!isSighting(sighting) || !isSighting(other)) {
            throw new IndexOutOfBoundsException();
        }
        if (!canJoin(sightings[sighting], sightings[other])) {
            throw new UnsupportedOperationException();
        }
        if (mergeCount >= MOST_MERGES) {
            throw new IllegalStateException();
        }
        for (int s = 0; s < MOST_SIGHTINGS; s++) {
            personsBefore[mergeCount][s] = sightings[s].person;
        }
        mergeCount++;
        return join(sightings[sighting].person, sightings[other].person);
    }

    public int undoMerge() throws IllegalStateException {
        if (mergeCount <= 0) {
            throw new IllegalStateException();
        }
        mergeCount--;
        for (int s = 0; s < MOST_SIGHTINGS; s++) {
            sightings[s].person = personsBefore[mergeCount][s];
        }
        return mergeCount;
    }

    public int getPerson(int sighting) throws IndexOutOfBoundsException {
        if (!isSighting(sighting)) {
            throw new IndexOutOfBoundsException();
        }
        return sightings[sighting].person;
    }

    public int countPersons() {
        int persons = 0;
        for (int p = 0; p < sightingCount; p++) {
            if (isPerson(p)) {
                persons++;
            }
        }
        return persons;
    }

    public int getLikeness(int sighting, int other) throws IndexOutOfBoundsException {
        if (!isSighting(sighting) || !isSighting(other)) {
            throw new IndexOutOfBoundsException();
        }
        return likeness(sightings[sighting], sightings[other]);
    }

    public int mostLike(int sighting) throws IndexOutOfBoundsException, NoSuchElementException {
        if (!isSighting(sighting)) {
            throw new IndexOutOfBoundsException();
        }
        Sighting one = sightings[sighting];
        int best = NONE;
        int bestLikeness = 0;
        for (int s = 0; s < sightingCount; s++) {
            int likeness = likeness(one, sightings[s]);
            if (sightings[s].person != one.person && (best == NONE || likeness > bestLikeness)) {
                best = s;
                bestLikeness = likeness;
            }
        }
        if (best == NONE) {
            throw new NoSuchElementException();
        }
        return best;
    }

    public int getScore(int sighting) throws IndexOutOfBoundsException {
        if (!isSighting(sighting)) {
            throw new IndexOutOfBoundsException();
        }
        return scoreOf(sightings[sighting].person);
    }

    public int setWeights(int harm, int years) throws IllegalArgumentException {
        if (!isWithin(harm, 0, 99) || !isWithin(years, 0, 99)) {
            throw new IllegalArgumentException();
        }
        int before = harmWeight;
        harmWeight = harm;
        yearsWeight = years;
        return before;
    }

    // Nights

    public int addShelter(int beds, int takes, int degrees) throws IllegalArgumentException, IllegalStateException {
        if (!isWithin(beds, 1, 9) || !isWithin(takes, 0, ALL_NEEDS) || !isWithin(degrees, -30, 40)) {
            throw new IllegalArgumentException();
        }
        if (shelterCount >= MOST_SHELTERS) {
            throw new IllegalStateException();
        }
        int number = shelterCount;
        Shelter shelter = shelters[number];
        shelter.beds = beds;
        shelter.taken = takes;
        shelter.degrees = degrees;
        shelterCount = number + 1;
        return number;
    }

    public int ban(int shelter, int sighting, int days) throws IndexOutOfBoundsException, IllegalArgumentException {
        if (!isShelter(shelter) || !isSighting(sighting)) {
            throw new IndexOutOfBoundsException();
        }
        if (!isWithin(days, 0, 365)) {
            throw new IllegalArgumentException();
        }
        int lastDay = day + days;
        int[] bannedUntil = sightings[sighting].bannedUntil;
        // An earlier ban that holds for longer is not ended by a new one.
        bannedUntil[shelter] = Math.max(bannedUntil[shelter], lastDay);
        return lastDay;
    }

    public boolean liftBan(int shelter, int sighting) throws IndexOutOfBoundsException {
        if (!isShelter(shelter) || !isSighting(sighting)) {
            throw new IndexOutOfBoundsException();
        }
        int person = sightings[sighting].person;
        boolean before = isBanned(shelter, person);
        for (int s = 0; s < sightingCount; s++) {
            if (sightings[s].person == person) {
                sightings[s].bannedUntil[shelter] = NONE;
            }
        }
        return before;
    }

    public boolean takes(int shelter, int sighting) throws IndexOutOfBoundsException {
        if (!isShelter(shelter) || !isSighting(sighting)) {
            throw new IndexOutOfBoundsException();
        }
        return accepts(shelter, sightings[sighting].person);
    }

    public int setCold(int degrees) throws IllegalArgumentException {
        if (!isWithin(degrees, -40, 45)) {
            throw new IllegalArgumentException();
        }
        int before = cold;
        cold = degrees;
        return before;
    }

    public boolean isOpen(int shelter) throws IndexOutOfBoundsException {
        if (!isShelter(shelter)) {
            throw new IndexOutOfBoundsException();
        }
        return opensTonight(shelter);
    }

    public int ask(int sighting) throws IndexOutOfBoundsException, UnsupportedOperationException {
        if (!isSighting(sighting)) {
            throw new IndexOutOfBoundsException();
        }
        int person = sightings[sighting].person;
        if (hasAsked(person) || findHome(person) != NONE) {
            throw new UnsupportedOperationException();
        }
        sightings[sighting].asked = true;
        return countAsked();
    }

    public int giveBeds() {
        int given = 0;
        int person = NONE;
        int score = ABOVE_ALL_SCORES;
        for (int turn = 0; turn < sightingCount; turn++) {
            person = nextInQueue(score, person);
            if (person == NONE) {
                break;
            }
            score = scoreOf(person);
            int shelter = bestShelter(person);
            if (shelter != NONE) {
                giveBed(person, shelter);
                given++;
            }
        }
        return given;
    }

    public int bedOf(int sighting) throws IndexOutOfBoundsException, NoSuchElementException {
        if (!isSighting(sighting)) {
            throw new IndexOutOfBoundsException();
        }
        int shelter = findBed(sightings[sighting].person);
        if (shelter == NONE) {
            throw new NoSuchElementException();
        }
        return shelter;
    }

    public int freeBeds(int shelter) throws IndexOutOfBoundsException {
        if (!isShelter(shelter)) {
            throw new IndexOutOfBoundsException();
        }
        return bedsLeft(shelter);
    }

    public int notCome(int sighting) throws IndexOutOfBoundsException, NoSuchElementException {
        if (!isSighting(sighting)) {
            throw new IndexOutOfBoundsException();
        }
        int person = sightings[sighting].person;
        int shelter = findBed(person);
        if (!isShelter(shelter)) {
            throw new NoSuchElementException();
        }
        leaveQueue(person);
        return passBedOn(shelter);
    }

    /**
     * The most beds that can be given are the fewest that some set of full shelters leaves:
     * the beds of these, and one for each person who could go elsewhere (a cut that is as small as the flow).
     */
    public int mostBeds() {
        for (int p = 0; p < sightingCount; p++) {
            sightings[p].choices = isPerson(p) && hasAsked(p) ? openChoices(p) : 0;
        }
        int most = MOST_SIGHTINGS;
        for (int full = 0; full < 1 << shelterCount; full++) {
            most = Math.min(most, bedsIn(full) + countWithChoiceBeside(full));
        }
        return most;
    }

    public int passNights(int nights) throws IllegalArgumentException, IllegalStateException {
        if (!isWithin(nights, 1, 60)) {
            throw new IllegalArgumentException();
        }
        if (day + nights > LAST_DAY) {
            throw new IllegalStateException();
        }
        for (int night = 0; night < nights; night++) {
            countNightOutside();
            clearNight();
            day++;
            payRents();
        }
        return day;
    }

    public int nightsOutside(int sighting) throws IndexOutOfBoundsException {
        if (!isSighting(sighting)) {
            throw new IndexOutOfBoundsException();
        }
        return nightsOf(sightings[sighting].person);
    }

    // Papers

    public int setPaper(int paper, int office, int needed) throws IllegalArgumentException {
        if (!isPaper(paper) || !isOffice(office) || !isWithin(needed, 0, ALL_PAPERS) || (needed >> paper & 1) != 0) {
            throw new IllegalArgumentException();
        }
        int before = offices.officeOf[paper];
        offices.officeOf[paper] = office;
        offices.needed[paper] = needed;
        return before;
    }

    public int setOffice(int office, int days) throws IllegalArgumentException {
        if (!isOffice(office) || !isWithin(days, 0, EVERY_DAY)) {
            throw new IllegalArgumentException();
        }
        int before = offices.openDays[office];
        offices.openDays[office] = days;
        return before;
    }

    public int visit(int sighting, int office)
            throws IndexOutOfBoundsException, IllegalArgumentException, UnsupportedOperationException {
        if (!isSighting(sighting)) {
            throw new IndexOutOfBoundsException();
        }
        if (!isOffice(office)) {
            throw new IllegalArgumentException();
        }
        int person = sightings[sighting].person;
        if ((offices.openOn(day) >> office & 1) == 0 || hasVisited(person)) {
            throw new UnsupportedOperationException();
        }
        int held = papersOf(person);
        int coming = offices.heldAfterVisit(held, office) & ~held;
        sightings[sighting].papers |= coming;
        sightings[sighting].lastVisit = day;
        return coming;
    }

    public int getPapers(int sighting) throws IndexOutOfBoundsException {
        if (!isSighting(sighting)) {
            throw new IndexOutOfBoundsException();
        }
        return papersOf(sightings[sighting].person);
    }

    public int leastVisits(int sighting, int paper) throws IndexOutOfBoundsException, IllegalArgumentException {
        if (!isSighting(sighting)) {
            throw new IndexOutOfBoundsException();
        }
        if (!isPaper(paper)) {
            throw new IllegalArgumentException();
        }
        return offices.fewestVisits(papersOf(sightings[sighting].person), paper);
    }

    public int earliestDay(int sighting, int paper) throws IndexOutOfBoundsException, IllegalArgumentException {
        if (!isSighting(sighting)) {
            throw new IndexOutOfBoundsException();
        }
        if (!isPaper(paper)) {
            throw new IllegalArgumentException();
        }
        int person = sightings[sighting].person;
        int held = papersOf(person);
        if ((held >> paper & 1) != 0) {
            return day;
        }
        int first = hasVisited(person) ? day + 1 : day;
        return offices.firstDayWith(held, paper, first, day + DAYS_AHEAD - 1);
    }

    public boolean store(int sighting, boolean is) throws IndexOutOfBoundsException {
        if (!isSighting(sighting)) {
            throw new IndexOutOfBoundsException();
        }
        int person = sightings[sighting].person;
        boolean before = isStored(person);
        if (is) {
            sightings[sighting].stored = true;
        } else {
            unstore(person);
        }
        return before;
    }

    public int sweep() {
        int losing = 0;
        for (int p = 0; p < sightingCount; p++) {
            if (isPerson(p) && wasOutside(p) && !isStored(p) && papersOf(p) != 0) {
                losePapers(p);
                losing++;
            }
        }
        return losing;
    }

    // Homes and funds

    public int addHome(int rent, int papers, int takes) throws IllegalArgumentException, IllegalStateException {
        if (!isWithin(rent, 1, 2000) || !isWithin(papers, 0, ALL_PAPERS) || !isWithin(takes, 0, ALL_NEEDS)) {
            throw new IllegalArgumentException();
        }
        if (homeCount >= MOST_HOMES) {
            throw new IllegalStateException();
        }
        int number = homeCount;
        Home home = homes[number];
        home.rent = rent;
        home.papers = papers;
        home.taken = takes;
        homeCount = number + 1;
        return number;
    }

    public int addFund(int coins, int homes) throws IllegalArgumentException, IllegalStateException {
        if (!isWithin(coins, 0, 99999) || !isWithin(homes, 0, ALL_HOMES)) {
            throw new IllegalArgumentException();
        }
        if (fundCount >= MOST_FUNDS) {
            throw new IllegalStateException();
        }
        int number = fundCount;
        funds[number].coins = coins;
        funds[number].homes = homes;
        fundCount = number + 1;
        return number;
    }

    public int house(int home, int sighting, int fund)
            throws IndexOutOfBoundsException, UnsupportedOperationException {
        if (!isHome(home) || !isSighting(sighting) || !isFund(fund)) {
            throw new IndexOutOfBoundsException();
        }
        int person = sightings[sighting].person;
        if (countHomed(home) > 0 || !fitsHome(person, homes[home]) || !mayPay(funds[fund], home)) {
            throw new UnsupportedOperationException();
        }
        leaveQueue(person);
        sightings[sighting].home = home;
        homes[home].fund = fund;
        homes[home].firstDay = day;
        return day + RENT_DAYS;
    }

    public int homeOf(int sighting) throws IndexOutOfBoundsException, NoSuchElementException {
        if (!isSighting(sighting)) {
            throw new IndexOutOfBoundsException();
        }
        int home = findHome(sightings[sighting].person);
        if (home == NONE) {
            throw new NoSuchElementException();
        }
        return home;
    }

    public int getBehind(int home) throws IndexOutOfBoundsException {
        if (!isHome(home)) {
            throw new IndexOutOfBoundsException();
        }
        return homes[home].behind;
    }

    public int payBehind(int home, int fund) throws IndexOutOfBoundsException, UnsupportedOperationException {
        if (!isHome(home) || !isFund(fund)) {
            throw new IndexOutOfBoundsException();
        }
        Fund payer = funds[fund];
        if (homes[home].behind <= 0 || !mayPay(payer, home) || payer.coins < homes[home].rent) {
            throw new UnsupportedOperationException();
        }
        payer.coins -= homes[home].rent;
        homes[home].behind--;
        return payer.coins;
    }

    public int countReturns() {
        return returnCount;
    }

    // Counts and sums

    public int countIn(char where) throws IllegalArgumentException {
        if (where == 'b') {
            return countPersonsWithBed();
        }
        if (where == 'h') {
            return countPersonsWithHome();
        }
        if (where == 'o') {
            return countPersonsOutside();
        }
        throw new IllegalArgumentException();
    }

    public int estimate(int door, int other) throws IllegalArgumentException {
        if (!isDoor(door) || !isDoor(other) || door == other) {
            throw new IllegalArgumentException();
        }
        int atOne = 0;
        int atOther = 0;
        int atBoth = 0;
        for (int p = 0; p < sightingCount; p++) {
            boolean one = isPerson(p) && wasSeenAt(p, door);
            boolean two = isPerson(p) && wasSeenAt(p, other);
            atOne += one ? 1 : 0;
            atOther += two ? 1 : 0;
            atBoth += one && two ? 1 : 0;
        }
        return (atOne + 1) * (atOther + 1) / (atBoth + 1) - 1;
    }

    public float homeShare() throws ArithmeticException {
        int persons = countPersons();
        if (persons <= 0) {
            throw new ArithmeticException();
        }
        return (float) countPersonsWithHome() / (float) persons;
    }

    public double meanNights() throws ArithmeticException {
        int persons = countPersons();
        if (persons <= 0) {
            throw new ArithmeticException();
        }
        int nights = 0;
        for (int s = 0; s < sightingCount; s++) {
            nights += sightings[s].nights;
        }
        return (double) nights / (double) persons;
    }

    public long checksum() {
        long sum = 7L;
        for (int p = 0; p < sightingCount; p++) {
            if (isPerson(p)) {
                sum = 31L * sum + p;
                sum = 31L * sum + papersOf(p);
                sum = 31L * sum + nightsOf(p);
            }
        }
        for (int h = 0; h < homeCount; h++) {
            sum = 31L * sum + homes[h].behind;
        }
        for (int f = 0; f < fundCount; f++) {
            sum = 31L * sum + funds[f].coins;
        }
        return 31L * sum + day;
    }

    public boolean isSound() {
        return isEachPersonInOnePlace() && isNoShelterOverfull() && isNoHomeShared();
    }

    // What numbers there are

    private static boolean isWithin(int value, int least, int most) {
        return least <= value && value <= most;
    }

    private static boolean isDoor(int door) {
        return isWithin(door, 0, DOORS - 1);
    }

    private static boolean isPaper(int paper) {
        return isWithin(paper, 0, PAPERS - 1);
    }

    private static boolean isOffice(int office) {
        return isWithin(office, 0, OFFICES - 1);
    }

    private boolean isSighting(int sighting) {
        return isWithin(sighting, 0, sightingCount - 1);
    }

    private boolean isShelter(int shelter) {
        return isWithin(shelter, 0, shelterCount - 1);
    }

    private boolean isHome(int home) {
        return isWithin(home, 0, homeCount - 1);
    }

    private boolean isFund(int fund) {
        return isWithin(fund, 0, fundCount - 1);
    }

    private boolean isPerson(int sighting) {
        return isSighting(sighting) && sightings[sighting].person == sighting;
    }

    // Joining

    private boolean canJoin(Sighting one, Sighting other) {
        if (one.person == other.person) {
            return false;
        }
        if (one.door != other.door && !(one.shared && other.shared)) {
            return false;
        }
        if (!areYearsLike(one.person, other.person)) {
            return false;
        }
        return !(hasAskedOrHome(one.person) && hasAskedOrHome(other.person));
    }

    private boolean areYearsLike(int person, int other) {
        int year = yearOf(person);
        int otherYear = yearOf(other);
        return year == 0 || otherYear == 0 || year == otherYear;
    }

    /** All years that are told of one person are like: no merge joins unlike ones. */
    private int yearOf(int person) {
        int year = 0;
        for (int s = 0; s < sightingCount; s++) {
            if (sightings[s].person == person) {
                year = Math.max(year, sightings[s].year);
            }
        }
        return year;
    }

    private boolean hasAskedOrHome(int person) {
        return hasAsked(person) || findHome(person) != NONE;
    }

    /** Makes one person of two, and returns how many sightings it has. */
    private int join(int person, int other) {
        int lowest = Math.min(person, other);
        int size = 0;
        for (int s = 0; s < sightingCount; s++) {
            Sighting sighting = sightings[s];
            if (sighting.person == person || sighting.person == other) {
                sighting.person = lowest;
                size++;
            }
        }
        return size;
    }

    private static int likeness(Sighting one, Sighting other) {
        int likeness = one.name == other.name ? 4 : 0;
        if (one.year != 0 && other.year != 0) {
            likeness += one.year == other.year ? 3 : -4;
        }
        likeness += one.look == other.look ? 2 : -1;
        return likeness;
    }

    // What a person has

    private int needsOf(int person) {
        int needs = 0;
        for (int s = 0; s < sightingCount; s++) {
            if (sightings[s].person == person) {
                needs |= sightings[s].needs;
            }
        }
        return needs;
    }

    private int scoreOf(int person) {
        int harm = 0;
        int years = 0;
        for (int s = 0; s < sightingCount; s++) {
            if (sightings[s].person == person) {
                harm = Math.max(harm, sightings[s].harm);
                years = Math.max(years, sightings[s].years);
            }
        }
        return harmWeight * harm + yearsWeight * years;
    }

    private boolean hasAsked(int person) {
        for (int s = 0; s < sightingCount; s++) {
            if (sightings[s].person == person && sightings[s].asked) {
                return true;
            }
        }
        return false;
    }

    private int findBed(int person) {
        for (int s = 0; s < sightingCount; s++) {
            if (sightings[s].person == person && sightings[s].bed != NONE) {
                return sightings[s].bed;
            }
        }
        return NONE;
    }

    private int findHome(int person) {
        for (int s = 0; s < sightingCount; s++) {
            if (sightings[s].person == person && sightings[s].home != NONE) {
                return sightings[s].home;
            }
        }
        return NONE;
    }

    private int papersOf(int person) {
        int papers = 0;
        for (int s = 0; s < sightingCount; s++) {
            if (sightings[s].person == person) {
                papers |= sightings[s].papers;
            }
        }
        return papers;
    }

    private int nightsOf(int person) {
        int nights = 0;
        for (int s = 0; s < sightingCount; s++) {
            if (sightings[s].person == person) {
                nights += sightings[s].nights;
            }
        }
        return nights;
    }

    private boolean hasVisited(int person) {
        for (int s = 0; s < sightingCount; s++) {
            if (sightings[s].person == person && sightings[s].lastVisit == day) {
                return true;
            }
        }
        return false;
    }

    private boolean isStored(int person) {
        for (int s = 0; s < sightingCount; s++) {
            if (sightings[s].person == person && sightings[s].stored) {
                return true;
            }
        }
        return false;
    }

    private boolean wasOutside(int person) {
        for (int s = 0; s < sightingCount; s++) {
            if (sightings[s].person == person && sightings[s].wasOutside) {
                return true;
            }
        }
        return false;
    }

    private boolean wasSeenAt(int person, int door) {
        for (int s = 0; s < sightingCount; s++) {
            if (sightings[s].person == person && sightings[s].door == door) {
                return true;
            }
        }
        return false;
    }

    // Shelters and the queue

    private boolean opensTonight(int shelter) {
        return isShelter(shelter) && cold <= shelters[shelter].degrees;
    }

    private boolean isBanned(int shelter, int person) {
        if (!isShelter(shelter)) {
            return false;
        }
        for (int s = 0; s < sightingCount; s++) {
            if (sightings[s].person == person && sightings[s].bannedUntil[shelter] >= day) {
                return true;
            }
        }
        return false;
    }

    private boolean accepts(int shelter, int person) {
        return isShelter(shelter) && (needsOf(person) & ~shelters[shelter].taken) == 0 && !isBanned(shelter, person);
    }

    private int countAsked() {
        int asked = 0;
        for (int p = 0; p < sightingCount; p++) {
            if (isPerson(p) && hasAsked(p)) {
                asked++;
            }
        }
        return asked;
    }

    private int countInBed(int shelter) {
        int count = 0;
        for (int s = 0; s < sightingCount; s++) {
            if (sightings[s].bed == shelter) {
                count++;
            }
        }
        return count;
    }

    private int bedsLeft(int shelter) {
        return isShelter(shelter) ? shelters[shelter].beds - countInBed(shelter) : 0;
    }

    /** Who asked, has no bed, and comes next behind one of that score and number; -1 if nobody does. */
    private int nextInQueue(int lastScore, int lastPerson) {
        int next = NONE;
        int nextScore = NONE;
        for (int p = 0; p < sightingCount; p++) {
            if (!isPerson(p) || !hasAsked(p) || findBed(p) != NONE) {
                continue;
            }
            int score = scoreOf(p);
            boolean isBehind = score < lastScore || score == lastScore && p > lastPerson;
            if (isBehind && score > nextScore) {
                next = p;
                nextScore = score;
            }
        }
        return next;
    }

    private int bestShelter(int person) {
        int best = NONE;
        int mostFree = 0;
        for (int shelter = 0; shelter < shelterCount; shelter++) {
            int free = bedsLeft(shelter);
            if (free > mostFree && opensTonight(shelter) && accepts(shelter, person)) {
                best = shelter;
                mostFree = free;
            }
        }
        return best;
    }

    private void giveBed(int person, int shelter) {
        for (int s = 0; s < sightingCount; s++) {
            if (sightings[s].person == person && sightings[s].asked) {
                sightings[s].bed = shelter;
            }
        }
    }

    private void leaveQueue(int person) {
        for (int s = 0; s < sightingCount; s++) {
            if (sightings[s].person == person) {
                sightings[s].asked = false;
                sightings[s].bed = NONE;
            }
        }
    }

    private int passBedOn(int shelter) {
        if (!opensTonight(shelter)) {
            return NONE;
        }
        int person = NONE;
        int score = ABOVE_ALL_SCORES;
        for (int turn = 0; turn < sightingCount; turn++) {
            person = nextInQueue(score, person);
            if (person == NONE) {
                return NONE;
            }
            if (accepts(shelter, person)) {
                giveBed(person, shelter);
                return person;
            }
            score = scoreOf(person);
        }
        return NONE;
    }

    private int openChoices(int person) {
        int choices = 0;
        for (int shelter = 0; shelter < shelterCount; shelter++) {
            if (opensTonight(shelter) && accepts(shelter, person)) {
                choices |= 1 << shelter;
            }
        }
        return choices;
    }

    private int bedsIn(int full) {
        int beds = 0;
        for (int shelter = 0; shelter < shelterCount; shelter++) {
            if ((full >> shelter & 1) != 0) {
                beds += shelters[shelter].beds;
            }
        }
        return beds;
    }

    private int countWithChoiceBeside(int full) {
        int count = 0;
        for (int p = 0; p < sightingCount; p++) {
            if ((sightings[p].choices & ~full) != 0) {
                count++;
            }
        }
        return count;
    }

    // A night goes by

    private void countNightOutside() {
        for (int s = 0; s < sightingCount; s++) {
            Sighting sighting = sightings[s];
            sighting.wasOutside = isPerson(s) && isOutside(s);
            if (sighting.wasOutside) {
                sighting.nights++;
            }
        }
    }

    private boolean isOutside(int person) {
        return findBed(person) == NONE && findHome(person) == NONE;
    }

    private void clearNight() {
        for (int s = 0; s < sightingCount; s++) {
            sightings[s].asked = false;
            sightings[s].bed = NONE;
        }
    }

    private void payRents() {
        for (int home = 0; home < homeCount; home++) {
            boolean isDue = (day - homes[home].firstDay) % RENT_DAYS == 0;
            if (isDue && countHomed(home) > 0) {
                payRent(homes[home]);
                if (homes[home].behind >= BEHIND_LOST) {
                    loseHome(home);
                }
            }
        }
    }

    private void payRent(Home home) {
        int fund = home.fund;
        if (isFund(fund) && funds[fund].coins >= home.rent) {
            funds[fund].coins -= home.rent;
        } else {
            home.behind++;
        }
    }

    private void loseHome(int home) {
        if (!isHome(home)) {
            return;
        }
        homes[home].behind = 0;
        if (day - homes[home].firstDay < RETURN_DAYS) {
            returnCount++;
        }
        for (int s = 0; s < sightingCount; s++) {
            if (sightings[s].home == home) {
                sightings[s].home = NONE;
            }
        }
    }

    // Papers and homes of a person

    private void unstore(int person) {
        for (int s = 0; s < sightingCount; s++) {
            if (sightings[s].person == person) {
                sightings[s].stored = false;
            }
        }
    }

    private void losePapers(int person) {
        for (int s = 0; s < sightingCount; s++) {
            if (sightings[s].person == person) {
                sightings[s].papers = 0;
            }
        }
    }

    private int countHomed(int home) {
        int count = 0;
        for (int s = 0; s < sightingCount; s++) {
            if (sightings[s].home == home) {
                count++;
            }
        }
        return count;
    }

    private boolean fitsHome(int person, Home home) {
        return findHome(person) == NONE
                && (home.papers & ~papersOf(person)) == 0
                && (needsOf(person) & ~home.taken) == 0;
    }

    private static boolean mayPay(Fund fund, int home) {
        return (fund.homes >> home & 1) != 0;
    }

    // Counts of places

    private int countPersonsWithBed() {
        int count = 0;
        for (int p = 0; p < sightingCount; p++) {
            if (isPerson(p) && findBed(p) != NONE) {
                count++;
            }
        }
        return count;
    }

    private int countPersonsWithHome() {
        int count = 0;
        for (int p = 0; p < sightingCount; p++) {
            if (isPerson(p) && findHome(p) != NONE) {
                count++;
            }
        }
        return count;
    }

    private int countPersonsOutside() {
        int count = 0;
        for (int p = 0; p < sightingCount; p++) {
            if (isPerson(p) && isOutside(p)) {
                count++;
            }
        }
        return count;
    }

    private boolean isEachPersonInOnePlace() {
        int places = countPersonsWithBed() + countPersonsWithHome() + countPersonsOutside();
        return places == countPersons();
    }

    private boolean isNoShelterOverfull() {
        for (int shelter = 0; shelter < shelterCount; shelter++) {
            if (bedsLeft(shelter) < 0) {
                return false;
            }
        }
        return true;
    }

    private boolean isNoHomeShared() {
        for (int home = 0; home < homeCount; home++) {
            if (countHomed(home) > 1) {
                return false;
            }
        }
        return true;
    }
}
