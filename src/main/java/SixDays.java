import java.util.Arrays;

/** A ship that crosses in six days, as the numbered promises of the document tell it. */
public final class SixDays {
    public static final int NONE = -1;

    private static final int WRONG_NUMBER = -1;
    private static final int NOT_THERE = -2;
    private static final int BERTH_REFUSED = -3;
    private static final int NO_ROOM = -5;
    private static final int CANNOT_BE = -6;

    private static final int PORTS = 8;
    private static final int LEGS = 7;
    private static final int CLASSES = 3;
    private static final int SITTINGS = 3;
    private static final int WATCHES = 36;
    private static final int MAX_CABINS = 20;
    private static final int MAX_BERTHS = 4;
    private static final int MAX_PEOPLE = 100;
    private static final int PARTIES = 30;
    private static final int MAX_SEATS = 100;
    private static final int MAX_GROUPS = 10;
    private static final int MAX_KNOTS = 24;
    private static final int MAX_TONS = 1000;
    private static final int MAX_RUN = 3000;
    private static final int MAX_TAPE = 200;
    private static final int MAX_RULES = 10;
    private static final int POOLS = 6;
    private static final int MAX_BETS = 100;
    private static final int MAX_DAY = 1000;
    private static final int MAX_STAKE = 10000;
    private static final int MAX_TRUNKS = 40;
    private static final int MAX_SEEN = 200;
    private static final int PLACES = 100;

    private final Ship ship = new Ship();
    private final Dining dining = new Dining();
    private final Engine engine = new Engine();
    private final Tape tape = new Tape();
    private final Pools pools = new Pools();
    private final Trunks trunks = new Trunks();
    private final Sickness sickness = new Sickness();
    // Two that change places: a text with a FAULT must leave the RULES as they were.
    private Rules valid = new Rules();
    private Rules draft = new Rules();
    private int fault = NONE;
    private int refusal = 0;

    public SixDays() {
    }

    public int cabin(int cls, int berths) {
        return noted(ship.addCabin(cls, berths));
    }

    public int person(int cls, int from, int to, int party) {
        return noted(ship.addPerson(cls, from, to, party));
    }

    public int book(int person) {
        return noted(ship.giveBerth(person));
    }

    public int cancel(int person) {
        return noted(ship.takeBerth(person));
    }

    public int berth(int person) {
        return ship.berthOf(person);
    }

    public int who(int cabin, int berth, int leg) {
        return ship.holderOf(cabin, berth, leg);
    }

    public int aboard(int cls, int leg) {
        return ship.countAboard(cls, leg);
    }

    public int seats(int cls, int a, int b, int c) {
        return noted(dining.setSeats(cls, a, b, c));
    }

    public int wish(int person, int sitting) {
        // The answer may be NONE, which is no refusal, so noted() can't tell them apart.
        refusal = dining.refusalOfWish(ship, person, sitting);
        return refusal != 0 ? refusal : dining.changeWish(person, sitting);
    }

    public int dine(int leg, int cls) {
        return noted(dining.make(ship, leg, cls));
    }

    public int sitting(int leg, int person) {
        return ship.hasPerson(person) ? dining.sittingOf(leg, person) : NONE;
    }

    public int burn(int knots, int tons) {
        return noted(engine.setBurn(knots, tons));
    }

    public int storm(int from, int to, int part) {
        return noted(engine.setStorm(from, to, part));
    }

    public int miles(int watch, int knots) {
        return engine.milesOf(watch, knots);
    }

    public int run(int miles, int from, int to, int a, int b) {
        return noted(engine.makeRun(miles, from, to, a, b));
    }

    public int steamed(int watch, int what) {
        return engine.tellRun(watch, what);
    }

    public int feed(int a, int b, int c, int d, int e) {
        return tape.append(a, b, c, d, e);
    }

    public int end(int n) {
        return tape.cut(n);
    }

    public int rules() {
        fault = draft.read(tape);
        tape.cut(0);
        if (fault != NONE) {
            return noted(CANNOT_BE);
        }
        Rules old = valid;
        valid = draft;
        draft = old;
        return noted(valid.count);
    }

    public int fault() {
        return fault;
    }

    public int bet(int pool, int person, int miles, int stake, int watch) {
        return noted(pools.addBet(pool, ship.hasPerson(person), miles, stake, watch));
    }

    public int day(int pool, int miles) {
        return noted(pools.setDay(pool, miles));
    }

    public int wins(int bet) {
        return pools.gainOf(valid, bet);
    }

    public int pool(int pool, int what) {
        return pools.tellPool(valid, pool, what);
    }

    public int trunk(int person) {
        return noted(trunks.addTrunk(ship.hasPerson(person)));
    }

    public int see(int trunk, int place, int watch, int known) {
        return noted(trunks.addSeen(trunk, place, watch, known));
    }

    public int where(int trunk, int watch, int known) {
        return trunks.placeOf(trunk, watch, known);
    }

    public int ill(int person, int leg) {
        return noted(sickness.setIll(ship, person, leg));
    }

    public int met(int person) {
        return sickness.tellMet(ship, dining, person);
    }

    public int count(int what) {
        switch (what) {
            case 0: return ship.cabins;
            case 1: return ship.people;
            case 2: return ship.berthed;
            case 3: return valid.count;
            case 4: return pools.bets;
            case 5: return trunks.trunks;
            case 6: return trunks.seen;
            case 7: return tape.length;
            default: return NONE;
        }
    }

    public int status() {
        return refusal;
    }

    private int noted(int answer) {
        refusal = Math.min(answer, 0);
        return answer;
    }

    private static boolean within(int number, int low, int high) {
        return number >= low && number <= high;
    }

    private static boolean isLeg(int leg) {
        return within(leg, 0, LEGS - 1);
    }

    private static boolean isClass(int cls) {
        return within(cls, 0, CLASSES - 1);
    }

    private static boolean isWatch(int watch) {
        return within(watch, 0, WATCHES - 1);
    }

    /** CABINS, PEOPLE and who has which BERTH. */
    private static final class Ship {
        int cabins = 0;
        int people = 0;
        int berthed = 0;
        private final int[] cabinClass = new int[MAX_CABINS];
        private final int[] cabinBerths = new int[MAX_CABINS];
        private final int[] personClass = new int[MAX_PEOPLE];
        private final int[] personFrom = new int[MAX_PEOPLE];
        private final int[] personTo = new int[MAX_PEOPLE];
        private final int[] personParty = new int[MAX_PEOPLE];
        private final int[] personBerth = new int[MAX_PEOPLE];
        private final int[] holders = new int[MAX_CABINS * MAX_BERTHS * LEGS];

        Ship() {
            Arrays.fill(personBerth, NONE);
            Arrays.fill(holders, NONE);
        }

        int addCabin(int cls, int berths) {
            if (!isClass(cls) || !within(berths, 1, MAX_BERTHS)) {
                return WRONG_NUMBER;
            }
            if (cabins >= MAX_CABINS) {
                return NO_ROOM;
            }
            cabinClass[cabins] = cls;
            cabinBerths[cabins] = berths;
            cabins++;
            return cabins - 1;
        }

        int addPerson(int cls, int from, int to, int party) {
            boolean way = within(from, 0, PORTS - 1) && within(to, 0, PORTS - 1) && from < to;
            if (!isClass(cls) || !way || !within(party, NONE, PARTIES - 1)) {
                return WRONG_NUMBER;
            }
            if (people >= MAX_PEOPLE) {
                return NO_ROOM;
            }
            personClass[people] = cls;
            personFrom[people] = from;
            personTo[people] = to;
            personParty[people] = party;
            people++;
            return people - 1;
        }

        boolean hasPerson(int person) {
            return person >= 0 && person < people;
        }

        int classOf(int person) {
            return hasPerson(person) ? personClass[person] : NONE;
        }

        int partyOf(int person) {
            return hasPerson(person) ? personParty[person] : NONE;
        }

        int berthOf(int person) {
            return hasPerson(person) ? personBerth[person] : NONE;
        }

        int holderOf(int cabin, int berth, int leg) {
            if (cabin < 0 || cabin >= cabins || !within(berth, 0, MAX_BERTHS - 1) || !isLeg(leg)) {
                return NONE;
            }
            return holders[spot(cabin * MAX_BERTHS + berth, leg)];
        }

        boolean isAboard(int person, int leg) {
            return berthOf(person) != NONE && leg >= personFrom[person] && leg < personTo[person];
        }

        int countAboard(int cls, int leg) {
            if (!isClass(cls) || !isLeg(leg)) {
                return NONE;
            }
            int found = 0;
            for (int p = 0; p < people; p++) {
                if (personClass[p] == cls && isAboard(p, leg)) {
                    found++;
                }
            }
            return found;
        }

        boolean shareCabin(int one, int other, int leg) {
            return isAboard(one, leg) && isAboard(other, leg)
                && personBerth[one] / MAX_BERTHS == personBerth[other] / MAX_BERTHS;
        }

        int giveBerth(int person) {
            if (!hasPerson(person)) {
                return NOT_THERE;
            }
            if (personBerth[person] != NONE) {
                return BERTH_REFUSED;
            }
            int cabin = personParty[person] == NONE ? NONE : findCabin(person, true);
            if (cabin == NONE) {
                cabin = findCabin(person, false);
            }
            if (cabin == NONE) {
                return BERTH_REFUSED;
            }
            int berth = cabin * MAX_BERTHS + freeBerth(cabin, person);
            personBerth[person] = berth;
            hold(berth, person, person);
            berthed++;
            return berth;
        }

        int takeBerth(int person) {
            if (!hasPerson(person)) {
                return NOT_THERE;
            }
            if (personBerth[person] == NONE) {
                return BERTH_REFUSED;
            }
            hold(personBerth[person], person, NONE);
            personBerth[person] = NONE;
            berthed--;
            return 0;
        }

        private static int spot(int berth, int leg) {
            return berth * LEGS + leg;
        }

        private void hold(int berth, int person, int holder) {
            for (int leg = personFrom[person]; leg < personTo[person]; leg++) {
                holders[spot(berth, leg)] = holder;
            }
        }

        private int findCabin(int person, boolean withParty) {
            for (int c = 0; c < cabins; c++) {
                if (cabinClass[c] == personClass[person] && suits(c, person)
                    && freeBerth(c, person) != NONE && (!withParty || hasParty(c, person))) {
                    return c;
                }
            }
            return NONE;
        }

        private boolean suits(int cabin, int person) {
            for (int berth = 0; berth < cabinBerths[cabin]; berth++) {
                for (int leg = personFrom[person]; leg < personTo[person]; leg++) {
                    int holder = holderOf(cabin, berth, leg);
                    if (holder != NONE && personParty[holder] != personParty[person]) {
                        return false;
                    }
                }
            }
            return true;
        }

        private boolean hasParty(int cabin, int person) {
            for (int berth = 0; berth < cabinBerths[cabin]; berth++) {
                for (int leg = personFrom[person]; leg < personTo[person]; leg++) {
                    int holder = holderOf(cabin, berth, leg);
                    if (holder != NONE && personParty[holder] == personParty[person]) {
                        return true;
                    }
                }
            }
            return false;
        }

        private int freeBerth(int cabin, int person) {
            for (int berth = 0; berth < cabinBerths[cabin]; berth++) {
                if (isFree(cabin, berth, person)) {
                    return berth;
                }
            }
            return NONE;
        }

        private boolean isFree(int cabin, int berth, int person) {
            for (int leg = personFrom[person]; leg < personTo[person]; leg++) {
                if (holderOf(cabin, berth, leg) != NONE) {
                    return false;
                }
            }
            return true;
        }
    }

    /** SEATS, WISHES and, of each LEG and CLASS, the DINING made latest. */
    private static final class Dining {
        private final int[] seatsOf = new int[CLASSES * SITTINGS];
        private final int[] wishOf = new int[MAX_PEOPLE];
        // A person is of one CLASS for good, so a place for each LEG and person keeps all CLASSES apart.
        private final int[] kept = new int[LEGS * MAX_PEOPLE];
        private final int[] groupOf = new int[MAX_PEOPLE];
        private final int[] groupOfParty = new int[PARTIES];
        // Made by the first DINING alone: most objects never dine, and its tables are wide.
        private Seating latestSeating = null;

        Dining() {
            Arrays.fill(wishOf, NONE);
            Arrays.fill(kept, NONE);
        }

        int setSeats(int cls, int a, int b, int c) {
            if (!isClass(cls) || !within(a, 0, MAX_SEATS) || !within(b, 0, MAX_SEATS)
                || !within(c, 0, MAX_SEATS)) {
                return WRONG_NUMBER;
            }
            seatsOf[cls * SITTINGS] = a;
            seatsOf[cls * SITTINGS + 1] = b;
            seatsOf[cls * SITTINGS + 2] = c;
            return 0;
        }

        int refusalOfWish(Ship ship, int person, int sitting) {
            if (!within(sitting, NONE, SITTINGS - 1)) {
                return WRONG_NUMBER;
            }
            return ship.hasPerson(person) ? 0 : NOT_THERE;
        }

        int changeWish(int person, int sitting) {
            if (!within(person, 0, MAX_PEOPLE - 1)) {
                return NONE;
            }
            int old = wishOf[person];
            wishOf[person] = sitting;
            return old;
        }

        int sittingOf(int leg, int person) {
            return isLeg(leg) && within(person, 0, MAX_PEOPLE - 1) ? kept[leg * MAX_PEOPLE + person] : NONE;
        }

        int make(Ship ship, int leg, int cls) {
            if (!isLeg(leg) || !isClass(cls)) {
                return WRONG_NUMBER;
            }
            Seating seating = readySeating();
            if (!gatherGroups(seating, ship, leg, cls)) {
                return NO_ROOM;
            }
            int first = cls * SITTINGS;
            int people = seating.solve(seatsOf[first], seatsOf[first + 1], seatsOf[first + 2]);
            for (int p = 0; p < ship.people; p++) {
                if (ship.classOf(p) == cls) {
                    kept[leg * MAX_PEOPLE + p] = seating.sittingOfGroup(groupOf[p]);
                }
            }
            return people;
        }

        private Seating readySeating() {
            if (latestSeating == null) {
                latestSeating = new Seating();
            }
            return latestSeating;
        }

        private boolean gatherGroups(Seating seating, Ship ship, int leg, int cls) {
            Arrays.fill(groupOf, NONE);
            Arrays.fill(groupOfParty, NONE);
            seating.groups = 0;
            for (int p = 0; p < ship.people; p++) {
                if (ship.classOf(p) == cls && ship.isAboard(p, leg)
                    && !joinGroup(seating, p, ship.partyOf(p))) {
                    return false;
                }
            }
            return true;
        }

        // People come by their numbers: so the one that opens a GROUP is its lowest, and tells its WISH.
        private boolean joinGroup(Seating seating, int person, int party) {
            int group = party == NONE ? NONE : groupOfParty[party];
            if (group == NONE) {
                group = seating.open(wishOf[person]);
            }
            if (group == NONE) {
                return false;
            }
            if (party != NONE) {
                groupOfParty[party] = group;
            }
            groupOf[person] = group;
            seating.sizes[group]++;
            return true;
        }
    }

    /** The search for the best DINING of some GROUPS. */
    private static final class Seating {
        // One person who dines outweighs every WISH there can be.
        private static final int PERSON_WEIGHT = 16;
        private static final int WIDTH = MAX_SEATS + 1;

        int groups = 0;
        final int[] sizes = new int[MAX_GROUPS];
        private final int[] wishes = new int[MAX_GROUPS];
        private final int[] row = new int[MAX_GROUPS];
        private final int[] bestRow = new int[MAX_GROUPS];
        private final int[] left = new int[SITTINGS];
        private final int[] peopleFrom = new int[MAX_GROUPS + 1];
        // By the first GROUP that is still to be placed, and SEATS that are left.
        private final int[] peopleFit = new int[(MAX_GROUPS + 1) * WIDTH];
        private final int[][] wishesFit = new int[SITTINGS][(MAX_GROUPS + 1) * WIDTH];
        private int best = NONE;

        int open(int wish) {
            if (groups >= MAX_GROUPS) {
                return NONE;
            }
            sizes[groups] = 0;
            wishes[groups] = wish;
            groups++;
            return groups - 1;
        }

        int sittingOfGroup(int group) {
            return within(group, 0, groups - 1) ? bestRow[group] : NONE;
        }

        int solve(int a, int b, int c) {
            left[0] = a;
            left[1] = b;
            left[2] = c;
            fillBounds();
            best = NONE;
            place(0, 0);
            return best / PERSON_WEIGHT;
        }

        private void fillBounds() {
            peopleFrom[groups] = 0;
            Arrays.fill(peopleFit, groups * WIDTH, (groups + 1) * WIDTH, 0);
            for (int s = 0; s < SITTINGS; s++) {
                Arrays.fill(wishesFit[s], groups * WIDTH, (groups + 1) * WIDTH, 0);
            }
            for (int g = groups - 1; g >= 0; g--) {
                peopleFrom[g] = peopleFrom[g + 1] + sizes[g];
                fillRow(peopleFit, g, sizes[g]);
                for (int s = 0; s < SITTINGS; s++) {
                    fillRow(wishesFit[s], g, wishes[g] == s ? 1 : 0);
                }
            }
        }

        private void fillRow(int[] fit, int group, int worth) {
            for (int seats = 0; seats < WIDTH; seats++) {
                int without = fit[(group + 1) * WIDTH + seats];
                int rest = seats - sizes[group];
                int with = rest < 0 ? 0 : worth + fit[(group + 1) * WIDTH + rest];
                fit[group * WIDTH + seats] = Math.max(without, with);
            }
        }

        private int mostFrom(int group) {
            int people = 0;
            int wished = 0;
            for (int s = 0; s < SITTINGS; s++) {
                people += peopleFit[group * WIDTH + left[s]];
                wished += wishesFit[s][group * WIDTH + left[s]];
            }
            return Math.min(people, peopleFrom[group]) * PERSON_WEIGHT + wished;
        }

        // Rows come in their order, and only a better one replaces the best: so the first of alike ones stays.
        private void place(int group, int worth) {
            if (group >= groups) {
                if (worth > best) {
                    best = worth;
                    System.arraycopy(row, 0, bestRow, 0, groups);
                }
                return;
            }
            if (worth + mostFrom(group) <= best) {
                return;
            }
            int size = sizes[group];
            for (int s = 0; s < SITTINGS; s++) {
                if (size <= left[s]) {
                    row[group] = s;
                    left[s] -= size;
                    place(group + 1, worth + size * PERSON_WEIGHT + (wishes[group] == s ? 1 : 0));
                    left[s] += size;
                }
            }
            row[group] = NONE;
            place(group + 1, worth);
        }
    }

    /** BURN, STORM and the RUN made latest. */
    private static final class Engine {
        final int[] burnOf = new int[MAX_KNOTS + 1];
        private final int[] stormOf = new int[WATCHES];
        private final int[] knotsOf = new int[WATCHES];
        private final int[] madeBy = new int[WATCHES];
        private int runFrom = 0;
        private int runTo = NONE;
        private int arrival = NONE;
        // Made by the first RUN alone: its tables are the widest of all.
        private Course latestCourse = null;

        Engine() {
            for (int k = 0; k <= MAX_KNOTS; k++) {
                burnOf[k] = 10 * k;
            }
        }

        int setBurn(int knots, int tons) {
            if (!within(knots, 0, MAX_KNOTS) || !within(tons, 0, MAX_TONS)) {
                return WRONG_NUMBER;
            }
            burnOf[knots] = tons;
            return 0;
        }

        int setStorm(int from, int to, int part) {
            if (!isWatch(from) || !isWatch(to) || from > to || !within(part, 0, 100)) {
                return WRONG_NUMBER;
            }
            Arrays.fill(stormOf, from, to + 1, part);
            return 0;
        }

        int milesOf(int watch, int knots) {
            if (!isWatch(watch) || !within(knots, 0, MAX_KNOTS)) {
                return NONE;
            }
            return 4 * knots * (100 - stormOf[watch]) / 100;
        }

        int makeRun(int miles, int from, int to, int a, int b) {
            boolean watches = isWatch(from) && isWatch(to) && from < to;
            boolean knots = within(a, 0, MAX_KNOTS) && within(b, 0, MAX_KNOTS) && a <= b;
            if (!within(miles, 0, MAX_RUN) || !watches || !knots) {
                return WRONG_NUMBER;
            }
            if (milesOfAll(from, to, b) < miles) {
                return CANNOT_BE;
            }
            Course course = readyCourse();
            course.solve(this, miles, from, to, a, b);
            runFrom = from;
            runTo = to;
            return keepRun(course, miles, a);
        }

        int tellRun(int watch, int what) {
            if (watch == NONE) {
                return what == 0 ? arrival : NONE;
            }
            if (!within(watch, runFrom, runTo)) {
                return NONE;
            }
            return what == 0 ? knotsOf[watch] : what == 1 ? madeBy[watch] : NONE;
        }

        int milesOfAll(int from, int to, int knots) {
            int sum = 0;
            for (int w = from; w <= to; w++) {
                sum += milesOf(w, knots);
            }
            return sum;
        }

        private Course readyCourse() {
            if (latestCourse == null) {
                latestCourse = new Course();
            }
            return latestCourse;
        }

        private int keepRun(Course course, int miles, int a) {
            int tons = 0;
            int made = 0;
            arrival = NONE;
            for (int w = runFrom; w <= runTo; w++) {
                boolean ahead = made < miles;
                int knots = ahead ? course.knotsAt(w, miles - made) : a;
                made += milesOf(w, knots);
                if (ahead && made >= miles) {
                    arrival = w;
                }
                knotsOf[w] = knots;
                madeBy[w] = made;
                tons += burnOf[knots];
            }
            return tons;
        }
    }

    /**
     * The search for the best RUN: from the last WATCH back, of each number of MILES still to make
     * the way that is best from there.
     */
    private static final class Course {
        // Tons outweigh every WATCH of arrival there can be.
        private static final int TON_WEIGHT = 64;
        private static final int ABOVE_ALL = (MAX_TONS * WATCHES + 1) * TON_WEIGHT;
        private static final int KNOT_BITS = 5;
        private static final long KNOT_MASK = 31L;
        private static final int KNOTS_IN_LONG = 12;

        private final int[] worth = new int[MAX_RUN + 1];
        // KNOTS of twelve WATCHES in each long: one element for each of them would be a table of 108,036.
        private final long[] chosen = new long[(MAX_RUN + 1) * (WATCHES / KNOTS_IN_LONG)];
        private final int[] milesAt = new int[MAX_KNOTS + 1];
        private int lowest = 0;
        private int highest = 0;

        void solve(Engine engine, int miles, int from, int to, int a, int b) {
            lowest = a;
            highest = b;
            int mostBehind = 0;
            int mostAhead = engine.milesOfAll(from, to, b);
            int leastAhead = engine.milesOfAll(from, to, a);
            for (int w = to; w >= from; w--) {
                fillMiles(engine, w);
                mostAhead -= milesAt[b];
                leastAhead -= milesAt[a];
                // Only what can be left at w, and can still be made from w on, is looked at.
                int top = Math.min(miles - leastAhead, mostBehind + milesAt[b]);
                int bottom = Math.max(1, miles - mostAhead);
                int tonsBehind = (to - w) * engine.burnOf[a];
                // Downwards, as the entries below are still those of the WATCH behind.
                for (int rest = top; rest >= bottom; rest--) {
                    choose(engine, w, rest, tonsBehind, mostBehind);
                }
                mostBehind += milesAt[b];
            }
        }

        int knotsAt(int watch, int rest) {
            if (!isWatch(watch) || !within(rest, 0, MAX_RUN)) {
                return lowest;
            }
            return (int) (chosen[cellOf(watch, rest)] >>> shiftOf(watch) & KNOT_MASK);
        }

        private void fillMiles(Engine engine, int watch) {
            for (int k = lowest; k <= highest; k++) {
                milesAt[k] = engine.milesOf(watch, k);
            }
        }

        private void choose(Engine engine, int watch, int rest, int tonsBehind, int mostBehind) {
            int best = ABOVE_ALL;
            int bestKnots = lowest;
            for (int k = lowest; k <= highest; k++) {
                int still = rest - milesAt[k];
                if (still <= mostBehind) {
                    int behind = still <= 0 ? tonsBehind * TON_WEIGHT + watch : worth[still];
                    int sum = engine.burnOf[k] * TON_WEIGHT + behind;
                    if (sum < best) {
                        best = sum;
                        bestKnots = k;
                    }
                }
            }
            worth[rest] = best;
            int cell = cellOf(watch, rest);
            long others = chosen[cell] & ~(KNOT_MASK << shiftOf(watch));
            chosen[cell] = others | (long) bestKnots << shiftOf(watch);
        }

        private static int cellOf(int watch, int rest) {
            return watch / KNOTS_IN_LONG * (MAX_RUN + 1) + rest;
        }

        private static int shiftOf(int watch) {
            return watch % KNOTS_IN_LONG * KNOT_BITS;
        }
    }

    /** The bytes fed, and the TOKEN of them that is looked at. */
    private static final class Tape {
        int length = 0;
        int start = 0;
        int number = 0;
        private int stop = 0;
        private final int[] bytes = new int[MAX_TAPE];

        int append(int a, int b, int c, int d, int e) {
            if (length + 20 > MAX_TAPE) {
                return NONE;
            }
            appendFour(a);
            appendFour(b);
            appendFour(c);
            appendFour(d);
            appendFour(e);
            return length;
        }

        int cut(int n) {
            if (n < 0 || n > length) {
                return NONE;
            }
            length = n;
            return n;
        }

        void rewind() {
            stop = 0;
            advance();
        }

        boolean atEnd() {
            return start >= length;
        }

        boolean takeWord(String word) {
            if (stop - start != word.length()) {
                return false;
            }
            for (int i = 0; i < word.length(); i++) {
                if (byteAt(start + i) != word.charAt(i)) {
                    return false;
                }
            }
            advance();
            return true;
        }

        boolean takeNumber(int low, int high) {
            if (!isDigit(byteAt(start))) {
                return false;
            }
            int value = 0;
            for (int i = start; i < stop; i++) {
                // Far above all that can be, and yet no row of digits wraps around.
                value = Math.min(value * 10 + byteAt(i) - '0', 1000000);
            }
            if (!within(value, low, high)) {
                return false;
            }
            number = value;
            advance();
            return true;
        }

        private void appendFour(int four) {
            for (int shift = 24; shift >= 0 && length < MAX_TAPE; shift -= 8) {
                bytes[length] = four >>> shift & 255;
                length++;
            }
        }

        private void advance() {
            start = stop;
            while (start < length && byteAt(start) == ' ') {
                start++;
            }
            stop = Math.min(start + 1, length);
            boolean letters = isLetter(byteAt(start));
            boolean digits = isDigit(byteAt(start));
            while (stop < length && (letters && isLetter(byteAt(stop)) || digits && isDigit(byteAt(stop)))) {
                stop++;
            }
        }

        private int byteAt(int place) {
            return place >= 0 && place < length ? bytes[place] : NONE;
        }

        private static boolean isLetter(int b) {
            return b >= 'a' && b <= 'z';
        }

        private static boolean isDigit(int b) {
            return b >= '0' && b <= '9';
        }
    }

    /** What a TEXT of RULES says, and how it is read. */
    private static final class Rules {
        static final int NEAREST = 0;
        static final int BELOW = 1;
        static final int EXACT = 2;

        int count = 0;
        int kind = NEAREST;
        int seamen = 0;
        int close = WATCHES - 1;
        int leastStake = 0;
        int mostStake = MAX_STAKE;

        /** Answers the FAULT's place, or NONE. */
        int read(Tape tape) {
            clear();
            tape.rewind();
            if (tape.atEnd()) {
                return NONE;
            }
            while (count < MAX_RULES) {
                if (!readRule(tape)) {
                    return tape.start;
                }
                count++;
                if (tape.atEnd()) {
                    return NONE;
                }
                if (!tape.takeWord(";")) {
                    return tape.start;
                }
            }
            return tape.start;
        }

        private void clear() {
            count = 0;
            kind = NEAREST;
            seamen = 0;
            close = WATCHES - 1;
            leastStake = 0;
            mostStake = MAX_STAKE;
        }

        private boolean readRule(Tape tape) {
            if (tape.takeWord("pool")) {
                return readKind(tape);
            }
            if (tape.takeWord("seamen")) {
                boolean good = tape.takeNumber(0, 100);
                seamen = tape.number;
                return good;
            }
            if (tape.takeWord("close")) {
                boolean good = tape.takeNumber(0, WATCHES - 1);
                close = tape.number;
                return good;
            }
            return tape.takeWord("stake") && readStakes(tape);
        }

        private boolean readKind(Tape tape) {
            if (tape.takeWord("nearest")) {
                kind = NEAREST;
                return true;
            }
            if (tape.takeWord("below")) {
                kind = BELOW;
                return true;
            }
            kind = EXACT;
            return tape.takeWord("exact");
        }

        private boolean readStakes(Tape tape) {
            if (!tape.takeNumber(0, MAX_STAKE)) {
                return false;
            }
            leastStake = tape.number;
            if (!tape.takeWord("to") || !tape.takeNumber(leastStake, MAX_STAKE)) {
                return false;
            }
            mostStake = tape.number;
            return true;
        }
    }

    /** BETS, the days' MILES, and what the POOLS come to by RULES. */
    private static final class Pools {
        int bets = 0;
        // Whose a BET is, no call asks.
        private final int[] betPool = new int[MAX_BETS];
        private final int[] betMiles = new int[MAX_BETS];
        private final int[] betStake = new int[MAX_BETS];
        private final int[] betWatch = new int[MAX_BETS];
        private final int[] dayMiles = new int[POOLS];
        // Of the POOL settled last.
        private int stakes = 0;
        private int seamenPart = 0;
        private int rest = 0;
        private int leastGap = NONE;
        private int winners = 0;
        private int share = 0;
        private int carried = 0;

        Pools() {
            Arrays.fill(dayMiles, NONE);
        }

        int addBet(int pool, boolean hasPerson, int miles, int stake, int watch) {
            if (!isPool(pool) || !within(miles, 0, MAX_DAY) || !within(stake, 0, MAX_STAKE)
                || !isWatch(watch)) {
                return WRONG_NUMBER;
            }
            if (!hasPerson) {
                return NOT_THERE;
            }
            if (bets >= MAX_BETS) {
                return NO_ROOM;
            }
            betPool[bets] = pool;
            betMiles[bets] = miles;
            betStake[bets] = stake;
            betWatch[bets] = watch;
            bets++;
            return bets - 1;
        }

        int setDay(int pool, int miles) {
            if (!isPool(pool) || !within(miles, NONE, MAX_DAY)) {
                return WRONG_NUMBER;
            }
            dayMiles[pool] = miles;
            return 0;
        }

        int gainOf(Rules rules, int bet) {
            if (bet < 0 || bet >= bets || !settleTo(rules, betPool[bet])) {
                return 0;
            }
            int gap = gapOf(rules, bet);
            return gap != NONE && gap == leastGap ? share : 0;
        }

        int tellPool(Rules rules, int pool, int what) {
            if (!settleTo(rules, pool)) {
                return NONE;
            }
            switch (what) {
                case 0: return stakes;
                case 1: return seamenPart;
                case 2: return rest;
                case 3: return winners;
                case 4: return carried;
                default: return NONE;
            }
        }

        private static boolean isPool(int pool) {
            return within(pool, 0, POOLS - 1);
        }

        private boolean settleTo(Rules rules, int pool) {
            if (!isPool(pool)) {
                return false;
            }
            carried = 0;
            for (int p = 0; p <= pool; p++) {
                if (dayMiles[p] == NONE) {
                    return false;
                }
                settle(rules, p);
            }
            return true;
        }

        private void settle(Rules rules, int pool) {
            stakes = 0;
            leastGap = NONE;
            winners = 0;
            for (int b = 0; b < bets; b++) {
                if (betPool[b] == pool && isValid(rules, b)) {
                    stakes += betStake[b];
                    countGap(gapOf(rules, b));
                }
            }
            seamenPart = stakes * rules.seamen / 100;
            rest = stakes - seamenPart + carried;
            share = winners > 0 ? rest / winners : 0;
            carried = rest - share * winners;
        }

        private void countGap(int gap) {
            if (gap != NONE && (leastGap == NONE || gap < leastGap)) {
                leastGap = gap;
                winners = 0;
            }
            if (gap != NONE && gap == leastGap) {
                winners++;
            }
        }

        private boolean isValid(Rules rules, int bet) {
            return betWatch[bet] <= rules.close && within(betStake[bet], rules.leastStake, rules.mostStake);
        }

        /** How far a BET is from the day's MILES; NONE of one that can't win. */
        private int gapOf(Rules rules, int bet) {
            int above = betMiles[bet] - dayMiles[betPool[bet]];
            boolean barred = rules.kind == Rules.BELOW && above > 0 || rules.kind == Rules.EXACT && above != 0;
            return barred || !isValid(rules, bet) ? NONE : Math.abs(above);
        }
    }

    /** TRUNKS and where they were SEEN. */
    private static final class Trunks {
        // Whose a TRUNK is, no call asks: the number of them is all there is to keep.
        int trunks = 0;
        int seen = 0;
        private final int[] seenTrunk = new int[MAX_SEEN];
        private final int[] seenPlace = new int[MAX_SEEN];
        private final int[] seenWatch = new int[MAX_SEEN];
        private final int[] seenKnown = new int[MAX_SEEN];

        int addTrunk(boolean hasPerson) {
            if (!hasPerson) {
                return NOT_THERE;
            }
            if (trunks >= MAX_TRUNKS) {
                return NO_ROOM;
            }
            trunks++;
            return trunks - 1;
        }

        int addSeen(int trunk, int place, int watch, int known) {
            if (!within(place, 0, PLACES - 1) || !isWatch(watch) || !isWatch(known)) {
                return WRONG_NUMBER;
            }
            if (trunk < 0 || trunk >= trunks) {
                return NOT_THERE;
            }
            if (seen >= MAX_SEEN) {
                return NO_ROOM;
            }
            seenTrunk[seen] = trunk;
            seenPlace[seen] = place;
            seenWatch[seen] = watch;
            seenKnown[seen] = known;
            seen++;
            return seen;
        }

        int placeOf(int trunk, int watch, int known) {
            if (!isWatch(watch) || !isWatch(known)) {
                return NONE;
            }
            int place = NONE;
            int latest = 0;
            for (int i = 0; i < seen; i++) {
                if (seenTrunk[i] == trunk && seenKnown[i] <= known && within(seenWatch[i], latest, watch)) {
                    latest = seenWatch[i];
                    place = seenPlace[i];
                }
            }
            return place;
        }
    }

    /** Who is ILL, and whom they MET. */
    private static final class Sickness {
        private final int[] illFrom = new int[MAX_PEOPLE];

        Sickness() {
            Arrays.fill(illFrom, NONE);
        }

        int setIll(Ship ship, int person, int leg) {
            if (!within(leg, NONE, LEGS - 1)) {
                return WRONG_NUMBER;
            }
            if (!ship.hasPerson(person)) {
                return NOT_THERE;
            }
            illFrom[person] = leg;
            return 0;
        }

        int tellMet(Ship ship, Dining dining, int person) {
            if (!ship.hasPerson(person)) {
                return NONE;
            }
            for (int other = 0; other < ship.people; other++) {
                if (other != person && illFrom[other] != NONE && wereTogether(ship, dining, person, other)) {
                    return 1;
                }
            }
            return 0;
        }

        private boolean wereTogether(Ship ship, Dining dining, int person, int sick) {
            for (int leg = illFrom[sick]; leg < LEGS; leg++) {
                if (ship.shareCabin(person, sick, leg) || dinedTogether(ship, dining, person, sick, leg)) {
                    return true;
                }
            }
            return false;
        }

        private static boolean dinedTogether(Ship ship, Dining dining, int person, int sick, int leg) {
            int sitting = dining.sittingOf(leg, person);
            return sitting != NONE && sitting == dining.sittingOf(leg, sick)
                && ship.classOf(person) == ship.classOf(sick);
        }
    }
}
