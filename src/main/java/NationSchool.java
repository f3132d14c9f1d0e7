import java.util.Arrays;

/** An old school of four nations; DOC.md says, promise by promise, what each call answers. */
public final class NationSchool {
    public static final int NONE = -1;

    private static final int NOTHING = -2000000000;
    private static final int WRONG = -2;
    private static final int FULL = -3;
    private static final int BELOW_ZERO = -3;
    private static final int FAULTY = -4;
    private static final int REFUSED = -5;
    private static final int EMPTY = -6;
    private static final int BEYOND = -7;
    private static final int UNLIKE = -8;

    private static final int DAYS = 3600;
    /** A day behind all DAYS: what happens then has not happened on any of them. */
    private static final int NEVER = DAYS;
    private static final int MONTH = 30;
    private static final int YEAR = 360;
    private static final int NATIONS = 4;
    private static final int RANKS = 4;
    private static final int LANDS = 10;
    private static final int IMAGES = 3;
    private static final int MOST_COINS = 99999;
    private static final int MOST_OTHERS = 99;
    private static final int THE_MOST = 0;
    private static final int THE_FEWEST = 1;
    private static final int ROW_BITS = 32;

    private final Told told = new Told();
    private final Told[] images = new Told[IMAGES];
    private final Reader reader = new Reader();
    private final Slots slots = new Slots();
    private final Joining joining = new Joining();
    private final int[] lodgedIn = new int[People.MOST];
    /** Work rows, filled anew by each call that uses them. */
    private final int[] nationOfEach = new int[People.MOST];
    private final int[] headsOfEach = new int[NATIONS];
    private final byte[] away = new byte[People.MOST];
    private final int[] returned = new int[People.MOST];
    private int returnedCount;

    public NationSchool() {
        Arrays.fill(lodgedIn, NONE);
    }

    // ---- the TAPE, the DAY

    public int feed(int a, int b, int c, int d, int e) {
        if (!reader.hasRoomForFive()) {
            return NONE;
        }
        reader.append(a);
        reader.append(b);
        reader.append(c);
        reader.append(d);
        reader.append(e);
        return reader.length;
    }

    public int end(int n) {
        if (n < 0 || n > reader.length) {
            return NONE;
        }
        reader.length = n;
        return n;
    }

    public int next(int days) {
        if (days < 0 || days >= DAYS || told.today + days >= DAYS) {
            return NONE;
        }
        told.today += days;
        return told.today;
    }

    // ---- VILLAGES and STATUTES

    public int village(int x, int y, int land) {
        if (!within(x, 0, 99) || !within(y, 0, 99) || !isLand(land)) {
            return WRONG;
        }
        return told.country.addVillage(x, y, land);
    }

    public int moved(int village, int land) {
        if (!isVillage(village) || !isLand(land)) {
            return WRONG;
        }
        return told.country.addWord(village, land, told.today);
    }

    public int statute(int election) {
        if (election != NONE && !canPassStatutes(election)) {
            return WRONG;
        }
        Country country = told.country;
        if (country.statutes >= Country.MOST_STATUTES) {
            return FULL;
        }
        Statute text = reader.read(country);
        if (reader.fault != 0) {
            return FAULTY;
        }
        return country.addStatute(text, told.today, election);
    }

    public int fault(int what) {
        switch (what) {
            case 0:
                return reader.fault;
            case 1:
                return reader.faultPlace;
            default:
                return NONE;
        }
    }

    public int force(int day, int known) {
        if (!isDay(day) || !isDay(known)) {
            return WRONG;
        }
        return told.country.inForce(day, known);
    }

    public int claims(int village, int day, int known) {
        if (!isVillage(village) || !isDay(day) || !isDay(known)) {
            return WRONG;
        }
        Country country = told.country;
        return country.claimsBy(country.inForce(day, known), village, Math.min(day, known));
    }

    public int nation(int village, int day, int known) {
        if (!isVillage(village) || !isDay(day) || !isDay(known)) {
            return WRONG;
        }
        Country country = told.country;
        return country.nationBy(country.inForce(day, known), village, Math.min(day, known));
    }

    public int sways(int village) {
        if (!isVillage(village)) {
            return WRONG;
        }
        Country country = told.country;
        int statute = country.inForce(told.today, told.today);
        int now = country.nationBy(statute, village, told.today);
        int lands = 0;
        for (int land = 0; land < LANDS; land++) {
            if (country.nationIfOf(land, statute, village) != now) {
                lands |= 1 << land;
            }
        }
        return lands;
    }

    // ---- PERSONS

    public int oath(int village, int rank) {
        if (!isVillage(village) || !isRank(rank)) {
            return WRONG;
        }
        return told.people.add(village, rank, told.today);
    }

    public int oaths(int slot) {
        if (!slots.exists(slot)) {
            return WRONG;
        }
        if (!slots.hasRow(slot)) {
            return EMPTY;
        }
        int taken = 0;
        for (int i = 0; i + 1 < slots.size[slot]; i += 2) {
            long village = slots.numberAt(slot, i);
            long rank = slots.numberAt(slot, i + 1);
            if (village < 0 || village >= told.country.villages || rank < 0 || rank >= RANKS) {
                break;
            }
            if (told.people.add((int) village, (int) rank, told.today) < 0) {
                break;
            }
            taken++;
        }
        return taken;
    }

    public int leave(int person) {
        if (!isThere(person)) {
            return WRONG;
        }
        told.people.left[person] = told.today;
        return 0;
    }

    public int personOf(int person, int what) {
        if (!isPerson(person)) {
            return NOTHING;
        }
        People people = told.people;
        switch (what) {
            case 0:
                return people.village[person];
            case 1:
                return people.rank[person];
            case 2:
                return people.oath[person];
            case 3:
                return people.left[person] == NEVER ? NONE : people.left[person];
            default:
                return NOTHING;
        }
    }

    public int of(int person, int known) {
        if (!isPerson(person) || !isDay(known)) {
            return WRONG;
        }
        return told.nationOf(person, known);
    }

    public int heads(int nation, int day, int known) {
        if (nation != NONE && !isNation(nation) || !isDay(day) || !isDay(known)) {
            return WRONG;
        }
        int heads = 0;
        for (int person = 0; person < told.people.size; person++) {
            if (told.people.isThereOn(person, day) && told.nationOf(person, known) == nation) {
                heads++;
            }
        }
        return heads;
    }

    public int sorted(int nation, int statute, int day) {
        if (!isNation(nation) || !isStatute(statute) || !isDay(day)) {
            return WRONG;
        }
        int heads = 0;
        for (int person = 0; person < told.people.size; person++) {
            if (told.people.isThereOn(person, day)
                    && told.nationUnder(statute, person, told.today) == nation) {
                heads++;
            }
        }
        return heads;
    }

    // ---- coins

    public int fees(int person, int day, int known) {
        if (!isPerson(person) || !isDay(day) || !isDay(known)) {
            return WRONG;
        }
        return told.feesOwed(person, day, known);
    }

    public int pay(int person, int coins) {
        if (!isPerson(person) || !within(coins, 1, 9999)) {
            return WRONG;
        }
        int nation = told.nationOf(person, told.today);
        if (!isNation(nation)) {
            return WRONG;
        }
        Purses purses = told.purses;
        if (purses.payments >= Purses.MOST) {
            return FULL;
        }
        purses.addPayment(person, told.today, coins);
        purses.has[nation] += coins;
        return purses.has[nation];
    }

    public int feast(int nation, int coins) {
        if (!isNation(nation) || !within(coins, 1, MOST_COINS)) {
            return WRONG;
        }
        Purses purses = told.purses;
        if (purses.has[nation] < coins) {
            return REFUSED;
        }
        purses.has[nation] -= coins;
        purses.feasts += coins;
        return purses.has[nation];
    }

    public int even(int person, int day) {
        if (!isPerson(person) || !isDay(day)) {
            return NOTHING;
        }
        return told.purses.paidBy(person, day) - told.feesOwed(person, day, told.today);
    }

    public int masters(int coins) {
        if (!within(coins, 1, MOST_COINS)) {
            return WRONG;
        }
        int all = countHeadsOfEach();
        if (all <= 0) {
            return REFUSED;
        }
        Purses purses = told.purses;
        purses.share(coins, headsOfEach, all);
        if (!purses.coverShares()) {
            return REFUSED;
        }
        purses.payShares(coins);
        return purses.sum();
    }

    public int part(int nation) {
        return isNation(nation) ? told.purses.latestPart[nation] : WRONG;
    }

    // ---- ELECTIONS

    public int call() {
        return told.elections.open(told.today);
    }

    public int vote(int election, int person, boolean is) {
        if (!isElection(election) || !isThere(person)) {
            return WRONG;
        }
        Elections elections = told.elections;
        if (elections.isClosed(election)) {
            return REFUSED;
        }
        elections.setBallot(election, person, is ? Elections.FOR : Elections.AGAINST);
        return 0;
    }

    public int close(int election) {
        if (!isElection(election)) {
            return WRONG;
        }
        Elections elections = told.elections;
        if (elections.isClosed(election)) {
            return REFUSED;
        }
        tallyAsCounted(election);
        elections.closedOn[election] = told.today;
        elections.closedBy[election] = told.country.inForce(told.today, told.today);
        return told.isCarried(election) ? 1 : 0;
    }

    public int electionOf(int election, int what) {
        if (!isClosedElection(election)) {
            return NOTHING;
        }
        Elections elections = told.elections;
        int part = told.country.partOf(elections.closedBy[election]);
        switch (what) {
            case 0:
                return told.isCarried(election) ? 1 : 0;
            case 1:
                return elections.isCarriedByHeads(election, part) ? 1 : 0;
            case 2:
                return elections.nationsOfSign(election, 1);
            case 3:
                return elections.nationsOfSign(election, -1);
            case 4:
                return elections.votesFor(election);
            case 5:
                return elections.votesAgainst(election);
            case 6:
                return elections.closedOn[election];
            case 7:
                return elections.isVoid(election) ? 1 : 0;
            default:
                return NOTHING;
        }
    }

    public int under(int election, int statute) {
        if (!isClosedElection(election) || !isStatute(statute)) {
            return WRONG;
        }
        tallyUnder(election, statute);
        boolean byNations = told.country.votesByNations(statute);
        int part = told.country.partOf(statute);
        return told.elections.isCarriedBy(Elections.TRIAL, byNations, part) ? 1 : 0;
    }

    public int swing(int election) {
        if (!isClosedElection(election)) {
            return WRONG;
        }
        Elections elections = told.elections;
        int statute = elections.closedBy[election];
        if (told.country.votesByNations(statute)) {
            return elections.swingByNations(election);
        }
        return elections.swingByHeads(election, told.country.partOf(statute));
    }

    public int undo(int election) {
        if (!isClosedElection(election)) {
            return WRONG;
        }
        Elections elections = told.elections;
        if (elections.isVoid(election)) {
            return REFUSED;
        }
        elections.voidFrom[election] = told.today;
        int fallen = 1;
        // A chain of what hangs on one another has at most each STATUTE once.
        for (int round = 0; round <= Country.MOST_STATUTES; round++) {
            fallen += voidHangingStatutes() + voidHangingElections();
        }
        return fallen;
    }

    // ---- the RECTOR

    public int rector(int day, int known) {
        if (!isDay(day) || !isDay(known)) {
            return WRONG;
        }
        findNationOfEach(known);
        return rectorOn(day, known);
    }

    public int turn(int nation, int from) {
        if (!isNation(nation) || !isDay(from)) {
            return WRONG;
        }
        findNationOfEach(told.today);
        int day = from;
        for (int step = 0; step < DAYS && day < DAYS; step++) {
            if (rectorOn(day, told.today) == nation) {
                return day;
            }
            day = nextChangeOfRector(day);
        }
        return NONE;
    }

    // ---- HOUSES

    public int house(int rooms, int school, int town) {
        if (!within(rooms, 1, 9) || !isRent(school) || !isRent(town)) {
            return WRONG;
        }
        return told.houses.add(rooms, school, town);
    }

    public int appeal(int house, int sum) {
        if (!isHouse(house) || !isRent(sum)) {
            return WRONG;
        }
        told.houses.third[house] = sum;
        return told.houses.rentOf(house);
    }

    public int rent(int house) {
        return isHouse(house) ? told.houses.rentOf(house) : WRONG;
    }

    public int wish(int person, int house) {
        if (!isPerson(person) || !isHouse(house)) {
            return WRONG;
        }
        return told.people.addWish(person, house);
    }

    public int lodge() {
        Arrays.fill(lodgedIn, NONE);
        told.houses.freeAllRooms();
        int housed = 0;
        for (int rank = RANKS - 1; rank >= 0; rank--) {
            housed += lodgeRank(rank);
        }
        return housed;
    }

    public int lodged(int person) {
        // By what lodge() found alone: back() may have taken away the PERSON, but not that.
        return within(person, 0, People.MOST - 1) ? lodgedIn[person] : NONE;
    }

    // ---- the EXODUS

    public int worth(int person, int others) {
        if (!isPerson(person) || !within(others, 0, MOST_OTHERS)) {
            return WRONG;
        }
        int before = told.people.others[person];
        told.people.others[person] = others;
        return before;
    }

    public int exodus(int what) {
        switch (what) {
            case THE_MOST:
                return sendTheMost();
            case THE_FEWEST:
                return sendTheFewest();
            default:
                return WRONG;
        }
    }

    public int goes(int person, int what) {
        if (!isPerson(person) || !within(what, THE_MOST, THE_FEWEST)) {
            return WRONG;
        }
        if (what == THE_MOST) {
            sendTheMost();
        } else {
            sendTheFewest();
        }
        return away[person];
    }

    public int returns(int k) {
        sendTheMost();
        return k >= 0 && k < returnedCount ? returned[k] : NONE;
    }

    public int judge(int row) {
        for (int person = 0; person < ROW_BITS; person++) {
            if (isInRow(row, person) && !isThere(person)) {
                return WRONG;
            }
        }
        int going = Integer.bitCount(row);
        boolean joins = false;
        for (int person = 0; person < told.people.size; person++) {
            int others = told.people.others[person];
            if (isInRow(row, person)) {
                if (others > going - 1) {
                    return 1;
                }
            } else if (isThere(person) && others <= going) {
                joins = true;
            }
        }
        return joins ? 2 : 0;
    }

    // ---- the BOOKS

    public int entry(int book, int year, int mark, int land) {
        if (!within(book, 0, 1) || !within(year, 0, 999) || !within(mark, 0, 99) || !isLand(land)) {
            return WRONG;
        }
        return told.books.add(book, year, mark, land);
    }

    public int join() {
        return joining.solve(told.books);
    }

    public int joined(int line) {
        // By what join() found alone: back() may have taken away the line, but not that.
        return within(line, 0, Books.MOST - 1) ? joining.partner[line] : NONE;
    }

    public int rivals() {
        return joining.rivalCount;
    }

    // ---- what there is, IMAGES

    public int count(int what) {
        switch (what) {
            case 0:
                return told.today;
            case 1:
                return told.country.villages;
            case 2:
                return told.people.size;
            case 3:
                return told.country.statutes;
            case 4:
                return told.elections.size;
            case 5:
                return told.houses.size;
            case 6:
                return reader.length;
            case 7:
                return told.purses.sum();
            case 8:
                return told.purses.feasts;
            case 9:
                return told.purses.payments;
            case 10:
                return told.books.lines[0];
            case 11:
                return told.books.lines[1];
            case 12:
                return slots.rows();
            case 13:
                return told.purses.mastersPaid;
            default:
                return NONE;
        }
    }

    public int purse(int nation) {
        return isNation(nation) ? told.purses.has[nation] : WRONG;
    }

    public int keep(int k) {
        if (!within(k, 0, IMAGES - 1)) {
            return WRONG;
        }
        Told image = images[k];
        if (image == null) {
            image = new Told();
            images[k] = image;
        }
        image.copyFrom(told);
        return 0;
    }

    public int back(int k) {
        if (!within(k, 0, IMAGES - 1)) {
            return WRONG;
        }
        Told image = images[k];
        if (image == null) {
            return EMPTY;
        }
        told.copyFrom(image);
        return 0;
    }

    // ---- SLOTS

    public int row(int slot, int width, int n) {
        if (!slots.exists(slot) || !within(width, 0, 3) || n > Slots.LONGEST) {
            return WRONG;
        }
        if (n < 0) {
            return BELOW_ZERO;
        }
        slots.lay(slot, width, n);
        return 0;
    }

    public int write(int slot, int i, long v) {
        if (!slots.exists(slot)) {
            return WRONG;
        }
        if (!slots.hasRow(slot)) {
            return EMPTY;
        }
        if (i < 0 || i >= slots.size[slot]) {
            return BEYOND;
        }
        slots.put(slot, i, v);
        return 0;
    }

    public int paste(int slot, int i, int to, int k, int n) {
        if (!slots.exists(slot) || !slots.exists(to)) {
            return WRONG;
        }
        if (!slots.hasRow(slot) || !slots.hasRow(to)) {
            return EMPTY;
        }
        if (slots.width[slot] != slots.width[to]) {
            return UNLIKE;
        }
        if (!slots.covers(slot, i, n) || !slots.covers(to, k, n)) {
            return BEYOND;
        }
        slots.copy(slot, i, to, k, n);
        return 0;
    }

    // ---- what numbers are

    private static boolean within(int n, int least, int most) {
        return n >= least && n <= most;
    }

    private static boolean isDay(int day) {
        return within(day, 0, DAYS - 1);
    }

    private static boolean isNation(int nation) {
        return within(nation, 0, NATIONS - 1);
    }

    private static boolean isLand(int land) {
        return within(land, 0, LANDS - 1);
    }

    private static boolean isRank(int rank) {
        return within(rank, 0, RANKS - 1);
    }

    private static boolean isRent(int sum) {
        return within(sum, 0, 999);
    }

    private boolean isVillage(int village) {
        return within(village, 0, told.country.villages - 1);
    }

    private boolean isStatute(int statute) {
        return within(statute, 0, told.country.statutes - 1);
    }

    private boolean isPerson(int person) {
        return within(person, 0, told.people.size - 1);
    }

    private boolean isThere(int person) {
        return isPerson(person) && told.people.isThereOn(person, told.today);
    }

    private boolean isHouse(int house) {
        return within(house, 0, told.houses.size - 1);
    }

    private boolean isElection(int election) {
        return within(election, 0, told.elections.size - 1);
    }

    private boolean isClosedElection(int election) {
        return isElection(election) && told.elections.isClosed(election);
    }

    private boolean canPassStatutes(int election) {
        return isClosedElection(election)
                && told.elections.closedOn[election] == told.today
                && told.isCarried(election)
                && !told.elections.isVoid(election);
    }

    private static boolean isInRow(int row, int person) {
        return person < ROW_BITS && (row >>> person & 1) == 1;
    }

    // ---- how answers are found

    private void findNationOfEach(int known) {
        for (int person = 0; person < told.people.size; person++) {
            nationOfEach[person] = told.nationOf(person, known);
        }
    }

    private int countHeadsOfEach() {
        Arrays.fill(headsOfEach, 0);
        int all = 0;
        for (int person = 0; person < told.people.size; person++) {
            if (isThere(person)) {
                int nation = told.nationOf(person, told.today);
                if (isNation(nation)) {
                    headsOfEach[nation]++;
                    all++;
                }
            }
        }
        return all;
    }

    private void tallyAsCounted(int election) {
        Elections elections = told.elections;
        elections.clearTally(election);
        for (int person = 0; person < told.people.size; person++) {
            if (!isThere(person)) {
                // Who leaves later that day still has voted, so what counts is settled now.
                elections.setBallot(election, person, Elections.NO_VOTE);
            }
            int ballot = elections.ballotOf(election, person);
            if (ballot != Elections.NO_VOTE) {
                elections.tally(election, told.nationOf(person, told.today), ballot);
            }
        }
    }

    private void tallyUnder(int election, int statute) {
        Elections elections = told.elections;
        int known = elections.closedOn[election];
        elections.clearTally(Elections.TRIAL);
        for (int person = 0; person < told.people.size; person++) {
            int ballot = elections.ballotOf(election, person);
            if (ballot != Elections.NO_VOTE) {
                elections.tally(Elections.TRIAL, told.nationUnder(statute, person, known), ballot);
            }
        }
    }

    private int voidHangingStatutes() {
        Country country = told.country;
        int fallen = 0;
        for (int statute = 0; statute < country.statutes; statute++) {
            if (!country.isVoid(statute) && told.elections.isVoid(country.passedBy[statute])) {
                country.voidFrom[statute] = told.today;
                fallen++;
            }
        }
        return fallen;
    }

    private int voidHangingElections() {
        Elections elections = told.elections;
        int fallen = 0;
        for (int election = 0; election < elections.size; election++) {
            if (!elections.isVoid(election) && told.country.isVoid(elections.closedBy[election])) {
                elections.voidFrom[election] = told.today;
                fallen++;
            }
        }
        return fallen;
    }

    /** By nationOfEach, which has to be as known on that DAY. */
    private int rectorOn(int day, int known) {
        int here = 0;
        for (int person = 0; person < told.people.size; person++) {
            int nation = nationOfEach[person];
            if (isNation(nation) && told.people.isThereOn(person, day)) {
                here |= 1 << nation;
            }
        }
        int turn = day / turnDays(day, known);
        for (int step = 0; step < NATIONS; step++) {
            int nation = (turn + step) % NATIONS;
            if ((here >> nation & 1) == 1) {
                return nation;
            }
        }
        return NONE;
    }

    private int turnDays(int day, int known) {
        return Math.max(MONTH * told.country.monthsOf(told.country.inForce(day, known)), MONTH);
    }

    /** The first DAY behind one on which another turn, STATUTE or PERSON may make a difference. */
    private int nextChangeOfRector(int day) {
        int length = turnDays(day, told.today);
        int next = (day / length + 1) * length;
        next = Math.min(next, told.people.nextChange(day));
        return Math.min(next, told.country.nextStatuteDay(day));
    }

    private int lodgeRank(int rank) {
        People people = told.people;
        int housed = 0;
        for (int person = 0; person < people.size; person++) {
            if (people.rank[person] == rank && isThere(person)) {
                lodgedIn[person] = firstFreeWish(person);
                if (lodgedIn[person] != NONE) {
                    housed++;
                }
            }
        }
        return housed;
    }

    private int firstFreeWish(int person) {
        for (int k = 0; k < told.people.wishCount[person]; k++) {
            int house = told.people.wishAt(person, k);
            if (isHouse(house) && told.houses.takeRoom(house)) {
                return house;
            }
        }
        return NONE;
    }

    /** Fills away and returned; answers how many stand away. */
    private int sendTheMost() {
        int going = sendAll();
        returnedCount = 0;
        for (int step = 0; step < People.MOST; step++) {
            int person = mostUnwilling(going - 1);
            if (person == NONE) {
                break;
            }
            away[person] = 0;
            returned[returnedCount] = person;
            returnedCount++;
            going--;
        }
        return going;
    }

    private int sendAll() {
        Arrays.fill(away, (byte) 0);
        int going = 0;
        for (int person = 0; person < told.people.size; person++) {
            if (isThere(person)) {
                away[person] = 1;
                going++;
            }
        }
        return going;
    }

    /** Of those away who want more others than there are, the one who wants the most. */
    private int mostUnwilling(int besides) {
        int found = NONE;
        int most = besides;
        for (int person = 0; person < told.people.size; person++) {
            int others = told.people.others[person];
            boolean wantsMore = others > besides && others >= most;
            if (away[person] == 1 && wantsMore) {
                found = person;
                most = others;
            }
        }
        return found;
    }

    /** Fills away; answers how many go. */
    private int sendTheFewest() {
        Arrays.fill(away, (byte) 0);
        int going = 0;
        for (int round = 0; round < People.MOST; round++) {
            int more = sendWilling(going);
            if (more == 0) {
                break;
            }
            going += more;
        }
        return going;
    }

    private int sendWilling(int going) {
        int more = 0;
        for (int person = 0; person < told.people.size; person++) {
            boolean willing = told.people.others[person] <= going;
            if (away[person] == 0 && willing && isThere(person)) {
                away[person] = 1;
                more++;
            }
        }
        return more;
    }

    /** All that is told: what an IMAGE keeps. */
    private static final class Told {
        int today;
        final Country country = new Country();
        final People people = new People();
        final Purses purses = new Purses();
        final Elections elections = new Elections();
        final Houses houses = new Houses();
        final Books books = new Books();

        void copyFrom(Told other) {
            today = other.today;
            country.copyFrom(other.country);
            people.copyFrom(other.people);
            purses.copyFrom(other.purses);
            elections.copyFrom(other.elections);
            houses.copyFrom(other.houses);
            books.copyFrom(other.books);
        }

        int nationOf(int person, int known) {
            return nationUnder(country.inForce(people.oath[person], known), person, known);
        }

        int nationUnder(int statute, int person, int known) {
            int village = people.village[person];
            int land = country.landOn(village, Math.min(people.oath[person], known));
            return country.nationIfOf(land, statute, village);
        }

        int feesOwed(int person, int day, int known) {
            int owed = 0;
            for (int due = people.oath[person]; due <= day; due += YEAR) {
                if (people.isThereOn(person, due)) {
                    owed += country.feeOf(country.inForce(due, known), people.rank[person]);
                }
            }
            return owed;
        }

        boolean isCarried(int election) {
            int statute = elections.closedBy[election];
            boolean byNations = country.votesByNations(statute);
            return elections.isCarriedBy(election, byNations, country.partOf(statute));
        }
    }

    /** VILLAGES, the words on their LANDS, and STATUTES. */
    private static final class Country {
        static final int MOST_VILLAGES = 40;
        static final int MOST_WORDS = 40;
        static final int MOST_STATUTES = 10;

        int villages;
        final int[] x = new int[MOST_VILLAGES];
        final int[] y = new int[MOST_VILLAGES];
        final int[] firstLand = new int[MOST_VILLAGES];
        int words;
        final int[] wordVillage = new int[MOST_WORDS];
        final int[] wordLand = new int[MOST_WORDS];
        final int[] wordDay = new int[MOST_WORDS];
        int statutes;
        final Statute[] text = new Statute[MOST_STATUTES];
        final int[] toldOn = new int[MOST_STATUTES];
        final int[] passedBy = new int[MOST_STATUTES];
        final int[] voidFrom = new int[MOST_STATUTES];

        void copyFrom(Country other) {
            villages = other.villages;
            System.arraycopy(other.x, 0, x, 0, MOST_VILLAGES);
            System.arraycopy(other.y, 0, y, 0, MOST_VILLAGES);
            System.arraycopy(other.firstLand, 0, firstLand, 0, MOST_VILLAGES);
            words = other.words;
            System.arraycopy(other.wordVillage, 0, wordVillage, 0, MOST_WORDS);
            System.arraycopy(other.wordLand, 0, wordLand, 0, MOST_WORDS);
            System.arraycopy(other.wordDay, 0, wordDay, 0, MOST_WORDS);
            statutes = other.statutes;
            // A STATUTE never changes once it is read, so images share it.
            for (int i = 0; i < MOST_STATUTES; i++) {
                text[i] = other.text[i];
            }
            System.arraycopy(other.toldOn, 0, toldOn, 0, MOST_STATUTES);
            System.arraycopy(other.passedBy, 0, passedBy, 0, MOST_STATUTES);
            System.arraycopy(other.voidFrom, 0, voidFrom, 0, MOST_STATUTES);
        }

        int addVillage(int atX, int atY, int land) {
            if (villages >= MOST_VILLAGES) {
                return FULL;
            }
            x[villages] = atX;
            y[villages] = atY;
            firstLand[villages] = land;
            villages++;
            return villages - 1;
        }

        int addWord(int village, int land, int day) {
            if (words >= MOST_WORDS) {
                return FULL;
            }
            wordVillage[words] = village;
            wordLand[words] = land;
            wordDay[words] = day;
            words++;
            return 0;
        }

        int addStatute(Statute read, int day, int election) {
            if (statutes >= MOST_STATUTES) {
                return FULL;
            }
            text[statutes] = read;
            toldOn[statutes] = day;
            passedBy[statutes] = election;
            voidFrom[statutes] = NEVER;
            statutes++;
            return statutes - 1;
        }

        int inForce(int day, int known) {
            for (int i = statutes - 1; i >= 0; i--) {
                if (toldOn[i] <= day && toldOn[i] <= known && voidFrom[i] > known) {
                    return i;
                }
            }
            return NONE;
        }

        boolean isVoid(int statute) {
            return statute >= 0 && statute < statutes && voidFrom[statute] != NEVER;
        }

        int nextStatuteDay(int day) {
            int next = NEVER;
            for (int i = 0; i < statutes; i++) {
                if (toldOn[i] > day) {
                    next = Math.min(next, toldOn[i]);
                }
            }
            return next;
        }

        int landOn(int village, int day) {
            for (int i = words - 1; i >= 0; i--) {
                if (wordVillage[i] == village && wordDay[i] <= day) {
                    return wordLand[i];
                }
            }
            return firstLand[village];
        }

        int nationBy(int statute, int village, int day) {
            return nationIfOf(landOn(village, day), statute, village);
        }

        int nationIfOf(int land, int statute, int village) {
            Statute by = textOf(statute);
            return by == null ? NONE : by.nationAt(x[village], y[village], land);
        }

        int claimsBy(int statute, int village, int day) {
            Statute by = textOf(statute);
            return by == null ? 0 : by.claimsAt(x[village], y[village], landOn(village, day));
        }

        int feeOf(int statute, int rank) {
            Statute by = textOf(statute);
            return by == null ? 0 : by.fee[rank];
        }

        boolean votesByNations(int statute) {
            Statute by = textOf(statute);
            return by != null && by.byNations;
        }

        int partOf(int statute) {
            Statute by = textOf(statute);
            return by == null ? Statute.USUAL_PART : by.hundredths;
        }

        int monthsOf(int statute) {
            Statute by = textOf(statute);
            return by == null ? Statute.USUAL_MONTHS : by.months;
        }

        private Statute textOf(int statute) {
            return statute >= 0 && statute < statutes ? text[statute] : null;
        }
    }

    /** What a text says: its LINES nation in their order, of other LINES the last. */
    private static final class Statute {
        static final int MOST_LINES = 16;
        static final int MOST_CONDS = 3;
        static final int USUAL_PART = 50;
        static final int USUAL_MONTHS = 3;
        static final int OF_LAND = 0;
        static final int OF_X = 1;
        static final int OF_Y = 2;
        static final int OF_DISTANCE = 3;

        final int[] fee = new int[RANKS];
        boolean byNations;
        int hundredths = USUAL_PART;
        int months = USUAL_MONTHS;
        int lines;
        final int[] lineNation = new int[MOST_LINES];
        /** How many CONDS stand up to the end of a LINE, those of earlier LINES too. */
        final int[] condsUpTo = new int[MOST_LINES];
        int conds;
        final int[] measure = new int[MOST_LINES * MOST_CONDS];
        final boolean[] negated = new boolean[MOST_LINES * MOST_CONDS];
        final char[] sign = new char[MOST_LINES * MOST_CONDS];
        final int[] bound = new int[MOST_LINES * MOST_CONDS];
        final int[] nearX = new int[MOST_LINES * MOST_CONDS];
        final int[] nearY = new int[MOST_LINES * MOST_CONDS];

        void beginLine(int nation) {
            if (lines < MOST_LINES) {
                lineNation[lines] = nation;
                condsUpTo[lines] = conds;
                lines++;
            }
        }

        /** A COND of the LINE that was begun last. */
        void addCond(int of, boolean not, char comparedBy, int to) {
            if (conds < bound.length && lines > 0) {
                measure[conds] = of;
                negated[conds] = not;
                sign[conds] = comparedBy;
                bound[conds] = to;
                conds++;
                condsUpTo[lines - 1] = conds;
            }
        }

        void addNear(boolean not, int villageX, int villageY, int distance) {
            if (conds < bound.length) {
                nearX[conds] = villageX;
                nearY[conds] = villageY;
                addCond(OF_DISTANCE, not, '<', distance * distance + 1);
            }
        }

        int nationAt(int x, int y, int land) {
            for (int line = 0; line < lines; line++) {
                if (lineHolds(line, x, y, land)) {
                    return lineNation[line];
                }
            }
            return NONE;
        }

        int claimsAt(int x, int y, int land) {
            int nations = 0;
            for (int line = 0; line < lines; line++) {
                if (lineHolds(line, x, y, land)) {
                    nations |= 1 << lineNation[line];
                }
            }
            return nations;
        }

        private boolean lineHolds(int line, int x, int y, int land) {
            int first = line == 0 ? 0 : condsUpTo[line - 1];
            for (int cond = first; cond < condsUpTo[line]; cond++) {
                int measured = measured(cond, x, y, land);
                if (compares(measured, sign[cond], bound[cond]) == negated[cond]) {
                    return false;
                }
            }
            return true;
        }

        private int measured(int cond, int x, int y, int land) {
            switch (measure[cond]) {
                case OF_LAND:
                    return land;
                case OF_X:
                    return x;
                case OF_Y:
                    return y;
                default:
                    int acrossX = x - nearX[cond];
                    int acrossY = y - nearY[cond];
                    return acrossX * acrossX + acrossY * acrossY;
            }
        }

        private static boolean compares(int measured, char by, int to) {
            if (by == '<') {
                return measured < to;
            }
            return by == '>' ? measured > to : measured == to;
        }
    }

    /** The TAPE, and how a STATUTE is read from it. Behind the first FAULT nothing more is read. */
    private static final class Reader {
        static final int LONGEST = 600;
        static final int MOST_NUMBER = 9999;
        static final int CANT_STAND = 1;
        static final int OUT_OF_BOUNDS = 2;
        static final int TOO_MANY = 3;
        static final int NO_TOKEN = 0;
        static final int WORD = 1;
        static final int NUMBER = 2;
        static final int SIGN = 3;
        static final int BLANK = 4;
        static final int END = 5;

        final byte[] tape = new byte[LONGEST];
        int length;
        int fault;
        int faultPlace = NONE;
        private int at;
        private int start;
        private int kind;

        boolean hasRoomForFive() {
            return length + 20 <= LONGEST;
        }

        void append(int four) {
            for (int shift = 24; shift >= 0 && length < LONGEST; shift -= 8) {
                tape[length] = (byte) (four >> shift);
                length++;
            }
        }

        /** Empties the TAPE; what it answers counts only where there is no FAULT. */
        Statute read(Country country) {
            Statute into = new Statute();
            fault = 0;
            faultPlace = NONE;
            at = 0;
            advance();
            for (int nth = 0; nth <= Statute.MOST_LINES && fault == 0 && kind != END; nth++) {
                readLine(into, country, nth);
            }
            length = 0;
            return into;
        }

        private void readLine(Statute into, Country country, int nth) {
            if (!beginsLine()) {
                wrong(CANT_STAND);
            } else if (nth >= Statute.MOST_LINES) {
                wrong(TOO_MANY);
            } else if (takeWord("nation")) {
                into.beginLine(takeNumber(0, NATIONS - 1));
                readConds(into, country);
            } else if (takeWord("fee")) {
                int rank = takeNumber(0, RANKS - 1);
                into.fee[rank] = takeNumber(0, MOST_NUMBER);
            } else if (takeWord("part")) {
                into.hundredths = takeNumber(0, MOST_NUMBER);
            } else if (takeWord("turn")) {
                into.months = takeNumber(1, 99);
            } else {
                advance();
                readVote(into);
            }
            takeSign(';');
        }

        private boolean beginsLine() {
            return isWord("nation") || isWord("fee") || isWord("vote")
                    || isWord("part") || isWord("turn");
        }

        private void readVote(Statute into) {
            if (takeWord("heads")) {
                into.byNations = false;
            } else if (takeWord("nations")) {
                into.byNations = true;
            } else {
                wrong(CANT_STAND);
            }
        }

        private void readConds(Statute into, Country country) {
            boolean more = takeWord("if");
            for (int nth = 0; nth <= Statute.MOST_CONDS && more; nth++) {
                readCond(into, country, nth);
                more = takeWord("and");
            }
        }

        private void readCond(Statute into, Country country, int nth) {
            if (!isWord("not") && !isMeasure()) {
                wrong(CANT_STAND);
            } else if (nth >= Statute.MOST_CONDS) {
                wrong(TOO_MANY);
            }
            boolean not = takeWord("not");
            if (takeWord("land")) {
                takeSign('=');
                into.addCond(Statute.OF_LAND, not, '=', takeNumber(0, MOST_NUMBER));
            } else if (takeWord("x")) {
                char by = takeComparison();
                into.addCond(Statute.OF_X, not, by, takeNumber(0, MOST_NUMBER));
            } else if (takeWord("y")) {
                char by = takeComparison();
                into.addCond(Statute.OF_Y, not, by, takeNumber(0, MOST_NUMBER));
            } else if (takeWord("near")) {
                int village = takeNumber(0, country.villages - 1);
                int distance = takeNumber(0, MOST_NUMBER);
                into.addNear(not, country.x[village], country.y[village], distance);
            } else {
                wrong(CANT_STAND);
            }
        }

        private boolean isMeasure() {
            return isWord("land") || isWord("x") || isWord("y") || isWord("near");
        }

        private boolean takeWord(String word) {
            boolean is = isWord(word);
            if (is) {
                advance();
            }
            return is;
        }

        private boolean isWord(String word) {
            if (fault != 0 || kind != WORD || at - start != word.length()) {
                return false;
            }
            for (int i = 0; i < word.length(); i++) {
                if (tape[start + i] != word.charAt(i)) {
                    return false;
                }
            }
            return true;
        }

        /** Answers 0, an index that every row has, where there is a FAULT. */
        private int takeNumber(int least, int most) {
            if (kind != NUMBER) {
                wrong(CANT_STAND);
                return 0;
            }
            int number = numberRead();
            if (number < least || number > most) {
                wrong(OUT_OF_BOUNDS);
            }
            if (fault != 0) {
                return 0;
            }
            advance();
            return number;
        }

        private int numberRead() {
            int number = 0;
            for (int i = start; i < at; i++) {
                // What is above every bound stays so, and small enough not to wrap around.
                number = Math.min(number * 10 + tape[i] - '0', MOST_NUMBER + 1);
            }
            return number;
        }

        private void takeSign(char sign) {
            if (kind == SIGN && tape[start] == sign) {
                advance();
            } else {
                wrong(CANT_STAND);
            }
        }

        private char takeComparison() {
            if (kind != SIGN || tape[start] == ';') {
                wrong(CANT_STAND);
                return '=';
            }
            char sign = (char) tape[start];
            advance();
            return sign;
        }

        private void wrong(int what) {
            if (fault == 0) {
                fault = what;
                faultPlace = start;
            }
        }

        /** To the next TOKEN; kind, start and at (its end) say which it is. */
        private void advance() {
            if (fault != 0) {
                return;
            }
            while (at < length && kindOf(tape[at]) == BLANK) {
                at++;
            }
            start = at;
            if (at >= length) {
                kind = END;
                return;
            }
            kind = kindOf(tape[at]);
            at++;
            boolean mayBeLonger = kind == WORD || kind == NUMBER;
            while (mayBeLonger && at < length && kindOf(tape[at]) == kind) {
                at++;
            }
        }

        private static int kindOf(byte c) {
            if (c >= 'a' && c <= 'z') {
                return WORD;
            }
            if (c >= '0' && c <= '9') {
                return NUMBER;
            }
            if (c == '<' || c == '>' || c == '=' || c == ';') {
                return SIGN;
            }
            return c == ' ' || c == '\n' ? BLANK : NO_TOKEN;
        }
    }

    /** PERSONS, with the HOUSES that they wish and the others whom they want to go. */
    private static final class People {
        static final int MOST = 80;
        static final int MOST_WISHES = 4;

        int size;
        final int[] village = new int[MOST];
        final int[] rank = new int[MOST];
        final int[] oath = new int[MOST];
        final int[] left = new int[MOST];
        final int[] others = new int[MOST];
        final int[] wishCount = new int[MOST];
        final int[] wishes = new int[MOST * MOST_WISHES];

        void copyFrom(People other) {
            size = other.size;
            System.arraycopy(other.village, 0, village, 0, MOST);
            System.arraycopy(other.rank, 0, rank, 0, MOST);
            System.arraycopy(other.oath, 0, oath, 0, MOST);
            System.arraycopy(other.left, 0, left, 0, MOST);
            System.arraycopy(other.others, 0, others, 0, MOST);
            System.arraycopy(other.wishCount, 0, wishCount, 0, MOST);
            System.arraycopy(other.wishes, 0, wishes, 0, MOST * MOST_WISHES);
        }

        int add(int from, int ofRank, int day) {
            if (size >= MOST) {
                return FULL;
            }
            village[size] = from;
            rank[size] = ofRank;
            oath[size] = day;
            left[size] = NEVER;
            others[size] = MOST_OTHERS;
            wishCount[size] = 0;
            size++;
            return size - 1;
        }

        boolean isThereOn(int person, int day) {
            return oath[person] <= day && day < left[person];
        }

        /** The first DAY behind one on which somebody comes or leaves. */
        int nextChange(int day) {
            int next = NEVER;
            for (int person = 0; person < size; person++) {
                if (oath[person] > day) {
                    next = Math.min(next, oath[person]);
                }
                if (left[person] > day) {
                    next = Math.min(next, left[person]);
                }
            }
            return next;
        }

        int addWish(int person, int house) {
            for (int k = 0; k < wishCount[person]; k++) {
                if (wishAt(person, k) == house) {
                    return WRONG;
                }
            }
            if (wishCount[person] >= MOST_WISHES) {
                return FULL;
            }
            wishes[person * MOST_WISHES + wishCount[person]] = house;
            wishCount[person]++;
            return wishCount[person];
        }

        int wishAt(int person, int k) {
            return wishes[person * MOST_WISHES + k];
        }
    }

    /** PURSES, what was paid into them and out of them. */
    private static final class Purses {
        static final int MOST = 300;

        final int[] has = new int[NATIONS];
        final int[] latestPart = new int[NATIONS];
        int payments;
        final int[] payer = new int[MOST];
        final int[] paidOn = new int[MOST];
        final int[] coins = new int[MOST];
        int feasts;
        int mastersPaid;
        /** Work rows of share(): no IMAGE needs them. */
        private final int[] shares = new int[NATIONS];
        private final int[] rests = new int[NATIONS];

        void copyFrom(Purses other) {
            System.arraycopy(other.has, 0, has, 0, NATIONS);
            System.arraycopy(other.latestPart, 0, latestPart, 0, NATIONS);
            payments = other.payments;
            System.arraycopy(other.payer, 0, payer, 0, MOST);
            System.arraycopy(other.paidOn, 0, paidOn, 0, MOST);
            System.arraycopy(other.coins, 0, coins, 0, MOST);
            feasts = other.feasts;
            mastersPaid = other.mastersPaid;
        }

        void addPayment(int person, int day, int sum) {
            if (payments < MOST) {
                payer[payments] = person;
                paidOn[payments] = day;
                coins[payments] = sum;
                payments++;
            }
        }

        int paidBy(int person, int day) {
            int sum = 0;
            for (int i = 0; i < payments; i++) {
                if (payer[i] == person && paidOn[i] <= day) {
                    sum += coins[i];
                }
            }
            return sum;
        }

        int sum() {
            int sum = 0;
            for (int nation = 0; nation < NATIONS; nation++) {
                sum += has[nation];
            }
            return sum;
        }

        void share(int sum, int[] heads, int all) {
            int lacking = sum;
            for (int nation = 0; nation < NATIONS; nation++) {
                shares[nation] = all <= 0 ? 0 : sum * heads[nation] / all;
                rests[nation] = all <= 0 ? 0 : sum * heads[nation] % all;
                lacking -= shares[nation];
            }
            for (int step = 0; step < NATIONS && lacking > 0; step++) {
                int nation = nationOfGreatestRest();
                shares[nation]++;
                rests[nation] = NONE;
                lacking--;
            }
        }

        private int nationOfGreatestRest() {
            int greatest = 0;
            for (int nation = 1; nation < NATIONS; nation++) {
                if (rests[nation] > rests[greatest]) {
                    greatest = nation;
                }
            }
            return greatest;
        }

        boolean coverShares() {
            for (int nation = 0; nation < NATIONS; nation++) {
                if (has[nation] < shares[nation]) {
                    return false;
                }
            }
            return true;
        }

        void payShares(int sum) {
            for (int nation = 0; nation < NATIONS; nation++) {
                has[nation] -= shares[nation];
                latestPart[nation] = shares[nation];
            }
            mastersPaid += sum;
        }
    }

    /** ELECTIONS: their ballots and, once closed, their tallies by NATIONS. */
    private static final class Elections {
        static final int MOST = 20;
        /** Behind the tallies of ELECTIONS there is one more, to try a STATUTE with. */
        static final int TRIAL = MOST;
        static final int NO_VOTE = 0;
        static final int FOR = 1;
        static final int AGAINST = 2;
        /** A column for each NATION, one for votes of no NATION. */
        private static final int COLUMNS = NATIONS + 1;
        private static final int SIGNS = 3;
        private static final int CANT = 1000;

        int size;
        final int[] calledOn = new int[MOST];
        final int[] closedOn = new int[MOST];
        final int[] closedBy = new int[MOST];
        final int[] voidFrom = new int[MOST];
        final byte[] ballots = new byte[MOST * People.MOST];
        final int[] tallyFor = new int[(MOST + 1) * COLUMNS];
        final int[] tallyAgainst = new int[(MOST + 1) * COLUMNS];
        /** Work row of swingByNations(). */
        private final int[] costs = new int[NATIONS * SIGNS];

        void copyFrom(Elections other) {
            size = other.size;
            System.arraycopy(other.calledOn, 0, calledOn, 0, MOST);
            System.arraycopy(other.closedOn, 0, closedOn, 0, MOST);
            System.arraycopy(other.closedBy, 0, closedBy, 0, MOST);
            System.arraycopy(other.voidFrom, 0, voidFrom, 0, MOST);
            System.arraycopy(other.ballots, 0, ballots, 0, MOST * People.MOST);
            System.arraycopy(other.tallyFor, 0, tallyFor, 0, MOST * COLUMNS);
            System.arraycopy(other.tallyAgainst, 0, tallyAgainst, 0, MOST * COLUMNS);
        }

        int open(int day) {
            for (int i = 0; i < size; i++) {
                if (calledOn[i] == day && !isClosed(i)) {
                    return WRONG;
                }
            }
            if (size >= MOST) {
                return FULL;
            }
            calledOn[size] = day;
            closedOn[size] = NONE;
            closedBy[size] = NONE;
            voidFrom[size] = NEVER;
            for (int person = 0; person < People.MOST; person++) {
                setBallot(size, person, NO_VOTE);
            }
            size++;
            return size - 1;
        }

        boolean isClosed(int election) {
            return closedOn[election] != NONE;
        }

        boolean isVoid(int election) {
            return election >= 0 && election < size && voidFrom[election] != NEVER;
        }

        void setBallot(int election, int person, int ballot) {
            ballots[election * People.MOST + person] = (byte) ballot;
        }

        int ballotOf(int election, int person) {
            return ballots[election * People.MOST + person];
        }

        void clearTally(int election) {
            for (int column = 0; column < COLUMNS; column++) {
                tallyFor[election * COLUMNS + column] = 0;
                tallyAgainst[election * COLUMNS + column] = 0;
            }
        }

        void tally(int election, int nation, int ballot) {
            int column = nation >= 0 && nation < NATIONS ? nation : NATIONS;
            if (ballot == FOR) {
                tallyFor[election * COLUMNS + column]++;
            } else if (ballot == AGAINST) {
                tallyAgainst[election * COLUMNS + column]++;
            }
        }

        int votesFor(int election) {
            return sumOf(tallyFor, election);
        }

        int votesAgainst(int election) {
            return sumOf(tallyAgainst, election);
        }

        private static int sumOf(int[] tallies, int election) {
            int sum = 0;
            for (int column = 0; column < COLUMNS; column++) {
                sum += tallies[election * COLUMNS + column];
            }
            return sum;
        }

        /** As bits, the NATIONS of which votes for it are more (sign 1), or fewer (-1). */
        int nationsOfSign(int election, int sign) {
            int nations = 0;
            for (int nation = 0; nation < NATIONS; nation++) {
                if (Integer.signum(leadIn(election, nation)) == sign) {
                    nations |= 1 << nation;
                }
            }
            return nations;
        }

        private int leadIn(int election, int nation) {
            int column = election * COLUMNS + nation;
            return tallyFor[column] - tallyAgainst[column];
        }

        boolean isCarriedBy(int election, boolean byNations, int part) {
            return byNations ? isCarriedByNations(election) : isCarriedByHeads(election, part);
        }

        boolean isCarriedByHeads(int election, int part) {
            int votesFor = votesFor(election);
            return isMore(votesFor, part, votesFor + votesAgainst(election));
        }

        private static boolean isMore(int votesFor, int part, int all) {
            return all > 0 && votesFor * 100 > part * all;
        }

        private boolean isCarriedByNations(int election) {
            int nationsFor = Integer.bitCount(nationsOfSign(election, 1));
            return nationsFor > Integer.bitCount(nationsOfSign(election, -1));
        }

        int swingByHeads(int election, int part) {
            int votesFor = votesFor(election);
            int votesAgainst = votesAgainst(election);
            int all = votesFor + votesAgainst;
            boolean carried = isMore(votesFor, part, all);
            int most = carried ? votesFor : votesAgainst;
            for (int given = 1; given <= most; given++) {
                int then = carried ? votesFor - given : votesFor + given;
                if (isMore(then, part, all) != carried) {
                    return given;
                }
            }
            return NONE;
        }

        /** Tries each way in which the NATIONS might stand, at what it costs to bring them there. */
        int swingByNations(int election) {
            boolean carried = isCarriedByNations(election);
            for (int nation = 0; nation < NATIONS; nation++) {
                for (int sign = -1; sign <= 1; sign++) {
                    costs[nation * SIGNS + sign + 1] = costOfSign(election, nation, sign);
                }
            }
            int cheapest = CANT;
            for (int way = 0; way < SIGNS * SIGNS * SIGNS * SIGNS; way++) {
                int lead = 0;
                int cost = 0;
                int rest = way;
                for (int nation = 0; nation < NATIONS; nation++) {
                    lead += rest % SIGNS - 1;
                    cost += costs[nation * SIGNS + rest % SIGNS];
                    rest /= SIGNS;
                }
                if (lead > 0 != carried) {
                    cheapest = Math.min(cheapest, cost);
                }
            }
            return cheapest >= CANT ? NONE : cheapest;
        }

        /** The fewest votes of a NATION, given the other way, that bring its lead to a sign. */
        private int costOfSign(int election, int nation, int sign) {
            int column = election * COLUMNS + nation;
            int lead = leadIn(election, nation);
            for (int given = 0; given <= People.MOST; given++) {
                boolean down = given <= tallyFor[column]
                        && Integer.signum(lead - 2 * given) == sign;
                boolean up = given <= tallyAgainst[column]
                        && Integer.signum(lead + 2 * given) == sign;
                if (down || up) {
                    return given;
                }
            }
            return CANT;
        }
    }

    private static final class Houses {
        static final int MOST = 12;

        int size;
        final int[] rooms = new int[MOST];
        final int[] school = new int[MOST];
        final int[] town = new int[MOST];
        final int[] third = new int[MOST];
        /** Work row of lodge(). */
        private final int[] free = new int[MOST];

        void copyFrom(Houses other) {
            size = other.size;
            System.arraycopy(other.rooms, 0, rooms, 0, MOST);
            System.arraycopy(other.school, 0, school, 0, MOST);
            System.arraycopy(other.town, 0, town, 0, MOST);
            System.arraycopy(other.third, 0, third, 0, MOST);
        }

        int add(int withRooms, int bySchool, int byTown) {
            if (size >= MOST) {
                return FULL;
            }
            rooms[size] = withRooms;
            school[size] = bySchool;
            town[size] = byTown;
            third[size] = NONE;
            size++;
            return size - 1;
        }

        int rentOf(int house) {
            int less = Math.min(school[house], town[house]);
            int more = Math.max(school[house], town[house]);
            if (third[house] == NONE) {
                return (less + more) / 2;
            }
            return Math.max(less, Math.min(more, third[house]));
        }

        void freeAllRooms() {
            System.arraycopy(rooms, 0, free, 0, MOST);
        }

        boolean takeRoom(int house) {
            if (free[house] <= 0) {
                return false;
            }
            free[house]--;
            return true;
        }
    }

    private static final class Books {
        static final int BOOKS = 2;
        static final int MOST = 7;

        final int[] lines = new int[BOOKS];
        final int[] years = new int[BOOKS * MOST];
        final int[] marks = new int[BOOKS * MOST];
        final int[] lands = new int[BOOKS * MOST];

        void copyFrom(Books other) {
            System.arraycopy(other.lines, 0, lines, 0, BOOKS);
            System.arraycopy(other.years, 0, years, 0, BOOKS * MOST);
            System.arraycopy(other.marks, 0, marks, 0, BOOKS * MOST);
            System.arraycopy(other.lands, 0, lands, 0, BOOKS * MOST);
        }

        int add(int book, int year, int mark, int land) {
            if (lines[book] >= MOST) {
                return FULL;
            }
            int at = book * MOST + lines[book];
            years[at] = year;
            marks[at] = mark;
            lands[at] = land;
            lines[book]++;
            return lines[book];
        }

        int likeness(int line, int other) {
            int second = MOST + other;
            int sum = marks[line] == marks[second] ? 5 : 0;
            sum += lands[line] == lands[second] ? 3 : 0;
            return sum + Math.max(0, 4 - Math.abs(years[line] - years[second]));
        }
    }

    /** Which lines the latest join() joined: found, not told, so no IMAGE has it. */
    private static final class Joining {
        private static final int LEAST_LIKENESS = 5;
        /** A set, as bits, of the lines of BOOK 1 that earlier lines of BOOK 0 have taken. */
        private static final int SETS = 1 << Books.MOST;

        final int[] partner = new int[Books.MOST];
        int rivalCount;
        private int lines;
        private int others;
        private final int[] likeness = new int[Books.MOST * Books.MOST];
        /** By line of BOOK 0 and set: the greatest sum from that line on, and in how many ways. */
        private final int[] best = new int[(Books.MOST + 1) * SETS];
        private final int[] ways = new int[(Books.MOST + 1) * SETS];

        Joining() {
            Arrays.fill(partner, NONE);
        }

        int solve(Books books) {
            lines = books.lines[0];
            others = books.lines[1];
            for (int line = 0; line < lines; line++) {
                for (int other = 0; other < others; other++) {
                    likeness[line * Books.MOST + other] = books.likeness(line, other);
                }
            }
            for (int taken = 0; taken < SETS; taken++) {
                best[lines * SETS + taken] = 0;
                ways[lines * SETS + taken] = 1;
            }
            for (int line = lines - 1; line >= 0; line--) {
                for (int taken = 0; taken < 1 << others; taken++) {
                    weigh(line, taken);
                }
            }
            choosePartners();
            rivalCount = ways[0];
            return best[0];
        }

        private boolean canJoin(int line, int other, int taken) {
            return (taken >> other & 1) == 0
                    && likeness[line * Books.MOST + other] >= LEAST_LIKENESS;
        }

        private int sumWith(int line, int other, int taken) {
            int behind = (line + 1) * SETS + (taken | 1 << other);
            return likeness[line * Books.MOST + other] + best[behind];
        }

        private void weigh(int line, int taken) {
            int alone = (line + 1) * SETS + taken;
            int greatest = best[alone];
            int equal = ways[alone];
            for (int other = 0; other < others; other++) {
                if (canJoin(line, other, taken)) {
                    int sum = sumWith(line, other, taken);
                    int more = ways[(line + 1) * SETS + (taken | 1 << other)];
                    equal = sum > greatest ? more : sum == greatest ? equal + more : equal;
                    greatest = Math.max(greatest, sum);
                }
            }
            best[line * SETS + taken] = greatest;
            ways[line * SETS + taken] = equal;
        }

        private void choosePartners() {
            Arrays.fill(partner, NONE);
            int taken = 0;
            for (int line = 0; line < lines; line++) {
                partner[line] = firstPartner(line, taken);
                if (partner[line] != NONE) {
                    taken |= 1 << partner[line];
                }
            }
        }

        private int firstPartner(int line, int taken) {
            int greatest = best[line * SETS + taken];
            for (int other = 0; other < others; other++) {
                if (canJoin(line, other, taken) && sumWith(line, other, taken) == greatest) {
                    return other;
                }
            }
            return NONE;
        }
    }

    /** SLOTS with rows of numbers; each has room for the longest row, so that none is made anew. */
    private static final class Slots {
        static final int COUNT = 4;
        static final int LONGEST = 60;

        final int[] width = new int[COUNT];
        /** NONE: the SLOT has nothing. */
        final int[] size = new int[COUNT];
        private final long[] numbers = new long[COUNT * LONGEST];

        Slots() {
            Arrays.fill(size, NONE);
        }

        boolean exists(int slot) {
            return slot >= 0 && slot < COUNT;
        }

        boolean hasRow(int slot) {
            return size[slot] != NONE;
        }

        int rows() {
            int rows = 0;
            for (int slot = 0; slot < COUNT; slot++) {
                if (hasRow(slot)) {
                    rows++;
                }
            }
            return rows;
        }

        void lay(int slot, int ofWidth, int n) {
            width[slot] = ofWidth;
            size[slot] = n;
            for (int i = 0; i < LONGEST; i++) {
                numbers[slot * LONGEST + i] = 0;
            }
        }

        long numberAt(int slot, int i) {
            return numbers[slot * LONGEST + i];
        }

        void put(int slot, int i, long v) {
            int cut = 64 - (8 << width[slot]);
            numbers[slot * LONGEST + i] = v << cut >> cut;
        }

        boolean covers(int slot, int from, int n) {
            return from >= 0 && n >= 0 && n <= size[slot] && from <= size[slot] - n;
        }

        void copy(int slot, int i, int to, int k, int n) {
            System.arraycopy(numbers, slot * LONGEST + i, numbers, to * LONGEST + k, n);
        }
    }
}
