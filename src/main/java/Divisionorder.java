/**
 * Parts the money of units of tracts among owners, month by month, by titles, leases and votes as they are known now.
 *
 * <p>What is told of a month can only change that month and those behind it, so the months ahead of it stay settled:
 * each telling calls {@link #unsettle}, and each question of money settles what is not settled up to now.
 */
public final class Divisionorder {
    public static final int NONE = -1;

    private static final int OWNERS = 10;
    private static final int LAST_MONTH = 60;
    private static final int MONTHS = LAST_MONTH + 1;
    private static final int MAX_PASS = 12;
    private static final int MAX_TRACTS = 8;
    private static final int MAX_ACRES = 1000;
    private static final int ALL_PARTS = 10000;
    private static final int MAX_DEEDS = 40;
    private static final int MAX_LEASES = 16;
    private static final int MAX_ROYALTY = 500;
    private static final int THOUSAND = 1000;
    private static final int MAX_TERM = 36;
    private static final int MAX_UNITS = 3;
    private static final int MAX_WELLS = 6;
    private static final int MAX_BARRELS = 1000;
    private static final int MAX_PRICE = 10000;
    private static final int MAX_COST = 1000000;
    private static final int MAX_COSTS = 10000000;
    private static final int MAX_TAX = 50;
    private static final int LEAST_PENALTY = 100;
    private static final int FIRST_PENALTY = 300;
    private static final int MAX_PENALTY = 500;
    private static final int HUNDRED = 100;
    private static final int WHOLE_DECK = 100000000;
    private static final int FIRST_LEAST_CHEQUE = 100;
    private static final int MAX_LEAST_CHEQUE = 100000;

    private int now = 0;
    private final Tract[] tracts = new Tract[MAX_TRACTS];
    private int tractCount = 0;
    private final Deed[] deeds = new Deed[MAX_DEEDS];
    private int deedCount = 0;
    private final Lease[] leases = new Lease[MAX_LEASES];
    private int leaseCount = 0;
    private final Unit[] units = new Unit[MAX_UNITS];
    private int unitCount = 0;
    private final Well[] wells = new Well[MAX_WELLS];
    private int wellCount = 0;
    /** The tax told for each month, NONE where none was told. */
    private final int[] taxesTold = new int[MONTHS];
    private int penaltyHundredths = FIRST_PENALTY;
    private int suspendedOwners = 0;
    private int leastCheque = FIRST_LEAST_CHEQUE;
    private final long[] paidCents = new long[OWNERS];
    /** The months below this one have dues and balances that are up to date. */
    private int settledMonths = 0;

    // These three are written anew for each use, so that no call has to make rows of its own.
    private final int[] titles = new int[OWNERS];
    private final Parting deck = new Parting(2 * OWNERS);
    private final Parting sharers = new Parting(OWNERS);

    public Divisionorder() {
        for (int month = 0; month < MONTHS; month++) {
            taxesTold[month] = NONE;
        }
    }

    // ---- months, titles

    public int pass(int months) throws IllegalArgumentException, IllegalStateException {
        if (months < 1 || months > MAX_PASS) {
            throw new IllegalArgumentException("months out of range");
        }
        if (now + months > LAST_MONTH) {
            throw new IllegalStateException("behind the last month");
        }
        now += months;
        return now;
    }

    public int tract(int acres, int owner)
            throws IndexOutOfBoundsException, IllegalArgumentException, IllegalStateException {
        if (!isOwner(owner)) {
            throw new IndexOutOfBoundsException("no such owner");
        }
        if (acres < 1 || acres > MAX_ACRES) {
            throw new IllegalArgumentException("acres out of range");
        }
        if (tractCount >= MAX_TRACTS) {
            throw new IllegalStateException("no more tracts");
        }
        tracts[tractCount] = new Tract(acres, owner);
        return tractCount++;
    }

    public int deed(int tract, int from, int to, int parts, int month)
            throws IndexOutOfBoundsException, IllegalArgumentException, IllegalStateException {
        Tract deeded = tractAt(tract);
        if (deeded == null || !isOwner(from) || !isOwner(to) || !isMonth(month)) {
            throw new IndexOutOfBoundsException("no such tract, owner or month");
        }
        if (from == to || parts < 1 || parts > ALL_PARTS) {
            throw new IllegalArgumentException("the same owner, or parts out of range");
        }
        if (leastTitle(deeded, from, month) < parts || deedCount >= MAX_DEEDS) {
            throw new IllegalStateException("not so many parts, or no more deeds");
        }
        deeds[deedCount] = new Deed(deeded, from, to, parts, month);
        deedCount++;
        unsettle(month);
        return titleOf(deeded, from, now);
    }

    public int title(int tract, int owner, int month) throws IndexOutOfBoundsException {
        Tract asked = tractAt(tract);
        if (asked == null || !isOwner(owner) || !isMonth(month)) {
            throw new IndexOutOfBoundsException("no such tract, owner or month");
        }
        return titleOf(asked, owner, month);
    }

    // ---- leases, units, wells

    public int lease(int tract, int lessor, int lessee, int royalty, int term)
            throws IndexOutOfBoundsException, IllegalArgumentException, IllegalStateException {
        Tract leased = tractAt(tract);
        if (leased == null || !isOwner(lessor) || !isOwner(lessee)) {
            throw new IndexOutOfBoundsException("no such tract or owner");
        }
        if (lessor == lessee || royalty < 0 || royalty > MAX_ROYALTY || term < 1 || term > MAX_TERM) {
            throw new IllegalArgumentException("the same owner, or royalty or term out of range");
        }
        if (leaseCount >= MAX_LEASES) {
            throw new IllegalStateException("no more leases");
        }
        Lease told = new Lease(leased, lessor, lessee, royalty);
        told.firstMonth = now;
        told.lastOfTerm = now + term - 1;
        leases[leaseCount] = told;
        unsettle(now);
        return leaseCount++;
    }

    public boolean isHeld(int lease, int month) throws IndexOutOfBoundsException {
        Lease asked = lease >= 0 && lease < MAX_LEASES ? leases[lease] : null;
        if (asked == null || !isMonth(month)) {
            throw new IndexOutOfBoundsException("no such lease or month");
        }
        return asked.isInForce(month);
    }

    public int unit(int tracts) throws IllegalArgumentException, IllegalStateException {
        if (tracts == 0 || tracts >>> tractCount != 0) {
            throw new IllegalArgumentException("none, or one that is no tract");
        }
        if (hasTractOfUnit(tracts) || unitCount >= MAX_UNITS) {
            throw new IllegalStateException("one is of a unit, or no more units");
        }
        Unit made = new Unit(now);
        for (int number = 0; number < MAX_TRACTS; number++) {
            Tract tract = this.tracts[number];
            if (tract != null && hasBit(tracts, number)) {
                tract.unit = made;
            }
        }
        units[unitCount] = made;
        unsettle(now);
        return unitCount++;
    }

    public int well(int unit) throws IndexOutOfBoundsException, IllegalStateException {
        Unit drilled = unitAt(unit);
        if (drilled == null) {
            throw new IndexOutOfBoundsException("no such unit");
        }
        if (wellCount >= MAX_WELLS) {
            throw new IllegalStateException("no more wells");
        }
        wells[wellCount] = new Well(drilled);
        return wellCount++;
    }

    public int oil(int well, int month, int barrels, int price)
            throws IndexOutOfBoundsException, IllegalArgumentException, IllegalStateException {
        Well told = wellAt(well);
        if (told == null || !isMonth(month)) {
            throw new IndexOutOfBoundsException("no such well or month");
        }
        if (barrels < 0 || barrels > MAX_BARRELS || price < 0 || price > MAX_PRICE) {
            throw new IllegalArgumentException("barrels or price out of range");
        }
        if (month < told.unit.firstMonth) {
            throw new IllegalStateException("the unit was told behind that month");
        }
        int barrelsBefore = told.barrels[month];
        told.tellOil(month, barrels, price);
        unsettle(month);
        return barrelsBefore;
    }

    public int cost(int well, int month, int cents)
            throws IndexOutOfBoundsException, IllegalArgumentException, IllegalStateException {
        Well told = wellAt(well);
        if (told == null || !isMonth(month)) {
            throw new IndexOutOfBoundsException("no such well or month");
        }
        if (cents < 1 || cents > MAX_COST) {
            throw new IllegalArgumentException("cents out of range");
        }
        if (month < told.unit.firstMonth || told.costs[month] + cents > MAX_COSTS) {
            throw new IllegalStateException("the unit was told behind that month, or costs too high");
        }
        told.costs[month] += cents;
        told.unit.costs[month] += cents;
        unsettle(month);
        return told.costs[month];
    }

    public int tax(int hundredths, int month) throws IndexOutOfBoundsException, IllegalArgumentException {
        if (!isMonth(month)) {
            throw new IndexOutOfBoundsException("no such month");
        }
        if (hundredths < 0 || hundredths > MAX_TAX) {
            throw new IllegalArgumentException("hundredths out of range");
        }
        int before = taxIn(month);
        taxesTold[month] = hundredths;
        unsettle(month);
        return before;
    }

    public boolean consent(int unit, int owner, boolean consents) throws IndexOutOfBoundsException {
        Unit asked = unitAt(unit);
        if (asked == null || !isOwner(owner)) {
            throw new IndexOutOfBoundsException("no such unit or owner");
        }
        boolean before = !hasBit(asked.refusing[now], owner);
        for (int month = now; month < MONTHS; month++) {
            asked.refusing[month] = withBit(asked.refusing[month], owner, !consents);
        }
        unsettle(now);
        return before;
    }

    public int penalty(int hundredths) throws IllegalArgumentException {
        if (hundredths < LEAST_PENALTY || hundredths > MAX_PENALTY) {
            throw new IllegalArgumentException("hundredths out of range");
        }
        int before = penaltyHundredths;
        penaltyHundredths = hundredths;
        unsettle(0);
        return before;
    }

    // ---- decks, dues

    public int interest(int unit, int month, int owner, boolean isRoyalty) throws IndexOutOfBoundsException {
        Unit asked = unitIn(unit, month);
        if (asked == null || !isOwner(owner)) {
            throw new IndexOutOfBoundsException("no such unit, month or owner");
        }
        layDeck(asked, month);
        deck.partOut(WHOLE_DECK);
        return (int) deck.parts[isRoyalty ? owner : OWNERS + owner];
    }

    public int revenue(int unit, int month) throws IndexOutOfBoundsException {
        Unit asked = unitIn(unit, month);
        if (asked == null) {
            throw new IndexOutOfBoundsException("no such unit or month");
        }
        return (int) revenueOf(asked, month);
    }

    public int due(int unit, int month, int owner) throws IndexOutOfBoundsException {
        Unit asked = unitIn(unit, month);
        if (asked == null || !isOwner(owner)) {
            throw new IndexOutOfBoundsException("no such unit, month or owner");
        }
        settle();
        return (int) asked.dues[month * OWNERS + owner];
    }

    public long balance(int unit, int month, int owner) throws IndexOutOfBoundsException {
        Unit asked = unitIn(unit, month);
        if (asked == null || !isOwner(owner)) {
            throw new IndexOutOfBoundsException("no such unit, month or owner");
        }
        settle();
        return asked.balances[month * OWNERS + owner];
    }

    public boolean agrees(int unit, int month) throws IndexOutOfBoundsException {
        Unit asked = unitIn(unit, month);
        if (asked == null) {
            throw new IndexOutOfBoundsException("no such unit or month");
        }
        settle();
        long allDues = 0;
        for (int owner = 0; owner < OWNERS; owner++) {
            allDues += asked.dues[month * OWNERS + owner];
        }
        return allDues == revenueOf(asked, month) - asked.costs[month];
    }

    // ---- money

    public boolean suspend(int owner, boolean is) throws IndexOutOfBoundsException {
        if (!isOwner(owner)) {
            throw new IndexOutOfBoundsException("no such owner");
        }
        boolean before = hasBit(suspendedOwners, owner);
        suspendedOwners = withBit(suspendedOwners, owner, is);
        return before;
    }

    public int least(int cents) throws IllegalArgumentException {
        if (cents < 1 || cents > MAX_LEAST_CHEQUE) {
            throw new IllegalArgumentException("cents out of range");
        }
        int before = leastCheque;
        leastCheque = cents;
        return before;
    }

    public long payDay() {
        settle();
        long all = 0;
        for (int owner = 0; owner < OWNERS; owner++) {
            long cheque = hasBit(suspendedOwners, owner) ? 0 : settledOwed(owner);
            if (cheque >= leastCheque) {
                paidCents[owner] += cheque;
                all += cheque;
            }
        }
        return all;
    }

    public long owed(int owner) throws IndexOutOfBoundsException {
        if (!isOwner(owner)) {
            throw new IndexOutOfBoundsException("no such owner");
        }
        settle();
        return settledOwed(owner);
    }

    public long paid(int owner) throws IndexOutOfBoundsException {
        if (!isOwner(owner)) {
            throw new IndexOutOfBoundsException("no such owner");
        }
        return paidCents[owner];
    }

    // ---- what is there

    private static boolean isOwner(int owner) {
        return owner >= 0 && owner < OWNERS;
    }

    private boolean isMonth(int month) {
        return month >= 0 && month <= now;
    }

    private Tract tractAt(int number) {
        return number >= 0 && number < MAX_TRACTS ? tracts[number] : null;
    }

    private Unit unitAt(int number) {
        return number >= 0 && number < MAX_UNITS ? units[number] : null;
    }

    private Unit unitIn(int number, int month) {
        Unit unit = unitAt(number);
        return unit != null && month >= unit.firstMonth && month <= now ? unit : null;
    }

    private Well wellAt(int number) {
        return number >= 0 && number < MAX_WELLS ? wells[number] : null;
    }

    private boolean hasTractOfUnit(int bits) {
        for (int number = 0; number < MAX_TRACTS; number++) {
            Tract tract = tracts[number];
            if (tract != null && hasBit(bits, number) && tract.unit != null) {
                return true;
            }
        }
        return false;
    }

    private static boolean hasBit(int bits, int number) {
        return (bits >> number & 1) != 0;
    }

    private static int withBit(int bits, int number, boolean is) {
        return is ? bits | 1 << number : bits & ~(1 << number);
    }

    // ---- titles, taxes

    private int titleOf(Tract tract, int owner, int month) {
        int parts = tract.firstOwner == owner ? ALL_PARTS : 0;
        for (Deed deed : deeds) {
            if (deed == null) {
                break;
            }
            if (deed.tract == tract && deed.month <= month) {
                parts += deed.to == owner ? deed.parts : 0;
                parts -= deed.from == owner ? deed.parts : 0;
            }
        }
        return parts;
    }

    /** A deed that is told late must not leave less than nothing in a month behind it. */
    private int leastTitle(Tract tract, int owner, int firstMonth) {
        int least = ALL_PARTS;
        for (int month = firstMonth; month <= now; month++) {
            least = Math.min(least, titleOf(tract, owner, month));
        }
        return least;
    }

    private void readTitles(Tract tract, int month) {
        for (int owner = 0; owner < OWNERS; owner++) {
            titles[owner] = tract.firstOwner == owner ? ALL_PARTS : 0;
        }
        for (Deed deed : deeds) {
            if (deed == null) {
                break;
            }
            if (deed.tract == tract && deed.month <= month) {
                titles[deed.from] -= deed.parts;
                titles[deed.to] += deed.parts;
            }
        }
    }

    private int taxIn(int month) {
        for (int from = month; from >= 0; from--) {
            if (taxesTold[from] != NONE) {
                return taxesTold[from];
            }
        }
        return 0;
    }

    private long revenueOf(Unit unit, int month) {
        long gross = unit.gross[month];
        return gross - gross * taxIn(month) / HUNDRED;
    }

    // ---- decks: the royalties, by owners, and behind them the working interests, by owners

    private void layDeck(Unit unit, int month) {
        deck.clear();
        for (Tract tract : tracts) {
            if (tract == null) {
                break;
            }
            if (tract.unit == unit) {
                layTract(tract, month);
            }
        }
    }

    private void layTract(Tract tract, int month) {
        readTitles(tract, month);
        for (int owner = 0; owner < OWNERS; owner++) {
            if (titles[owner] > 0) {
                long weight = (long) tract.acres * titles[owner];
                Lease lease = leaseThatCounts(tract, owner, month);
                if (lease == null) {
                    deck.weights[OWNERS + owner] += weight * THOUSAND;
                } else {
                    deck.weights[owner] += weight * lease.royalty;
                    deck.weights[OWNERS + lease.lessee] += weight * (THOUSAND - lease.royalty);
                }
            }
        }
    }

    private Lease leaseThatCounts(Tract tract, int lessor, int month) {
        for (Lease lease : leases) {
            if (lease == null) {
                break;
            }
            if (lease.tract == tract && lease.lessor == lessor && lease.isInForce(month)) {
                return lease;
            }
        }
        return null;
    }

    // ---- dues and balances

    private void unsettle(int fromMonth) {
        settledMonths = Math.min(settledMonths, fromMonth);
    }

    private void settle() {
        for (int month = settledMonths; month <= now; month++) {
            for (Unit unit : units) {
                if (unit != null && unit.firstMonth <= month) {
                    settleMonth(unit, month);
                }
            }
        }
        settledMonths = now + 1;
    }

    private void settleMonth(Unit unit, int month) {
        unit.openMonth(month);
        // Without money nothing moves, and most months of most runs are without.
        if (unit.gross[month] == 0 && unit.costs[month] == 0) {
            return;
        }
        layDeck(unit, month);
        int carried = carriedOwners(unit, month);
        bookCosts(unit, month, carried);
        bookRevenue(unit, month, carried);
    }

    private int carriedOwners(Unit unit, int month) {
        int working = 0;
        int carried = 0;
        for (int owner = 0; owner < OWNERS; owner++) {
            if (deck.weights[OWNERS + owner] > 0) {
                boolean isCarried = hasBit(unit.refusing[month], owner) || unit.balances[month * OWNERS + owner] > 0;
                working = withBit(working, owner, true);
                carried = withBit(carried, owner, isCarried);
            }
        }
        return carried == working ? 0 : carried;
    }

    private void bookCosts(Unit unit, int month, int carried) {
        int row = month * OWNERS;
        partByWorking(unit.costs[month], 0);
        for (int owner = 0; owner < OWNERS; owner++) {
            if (hasBit(carried, owner)) {
                unit.balances[row + owner] += sharers.parts[owner] * penaltyHundredths / HUNDRED;
            }
        }
        partByWorking(unit.costs[month], carried);
        for (int owner = 0; owner < OWNERS; owner++) {
            unit.dues[row + owner] -= sharers.parts[owner];
        }
    }

    private void bookRevenue(Unit unit, int month, int carried) {
        int row = month * OWNERS;
        long allWithheld = 0;
        deck.partOut(revenueOf(unit, month));
        for (int owner = 0; owner < OWNERS; owner++) {
            long working = deck.parts[OWNERS + owner];
            long withheld = hasBit(carried, owner) ? Math.min(working, unit.balances[row + owner]) : 0;
            unit.balances[row + owner] -= withheld;
            unit.dues[row + owner] += deck.parts[owner] + working - withheld;
            allWithheld += withheld;
        }
        partByWorking(allWithheld, carried);
        for (int owner = 0; owner < OWNERS; owner++) {
            unit.dues[row + owner] += sharers.parts[owner];
        }
    }

    private void partByWorking(long amount, int leftOut) {
        for (int owner = 0; owner < OWNERS; owner++) {
            sharers.weights[owner] = hasBit(leftOut, owner) ? 0 : deck.weights[OWNERS + owner];
        }
        sharers.partOut(amount);
    }

    private long settledOwed(int owner) {
        long cents = -paidCents[owner];
        for (Unit unit : units) {
            if (unit != null) {
                for (int month = unit.firstMonth; month <= now; month++) {
                    cents += unit.dues[month * OWNERS + owner];
                }
            }
        }
        return cents;
    }

    private static final class Tract {
        final int acres;
        final int firstOwner;
        /** Null as long as it is of none. */
        Unit unit = null;

        Tract(int acres, int firstOwner) {
            this.acres = acres;
            this.firstOwner = firstOwner;
        }
    }

    private static final class Deed {
        final Tract tract;
        final int from;
        final int to;
        final int parts;
        final int month;

        Deed(Tract tract, int from, int to, int parts, int month) {
            this.tract = tract;
            this.from = from;
            this.to = to;
            this.parts = parts;
            this.month = month;
        }
    }

    private static final class Lease {
        final Tract tract;
        final int lessor;
        final int lessee;
        final int royalty;
        int firstMonth = 0;
        int lastOfTerm = 0;

        Lease(Tract tract, int lessor, int lessee, int royalty) {
            this.tract = tract;
            this.lessor = lessor;
            this.lessee = lessee;
            this.royalty = royalty;
        }

        boolean isInForce(int asked) {
            if (asked < firstMonth) {
                return false;
            }
            Unit unit = tract.unit;
            if (unit == null) {
                return asked <= lastOfTerm;
            }
            for (int month = lastOfTerm; month < asked && month < MONTHS; month++) {
                if (unit.barrels[month] == 0) {
                    return false;
                }
            }
            return true;
        }
    }

    /** The sums of its wells stand here by months, so that no question has to go through the wells. */
    private static final class Unit {
        final int firstMonth;
        /** By months, the bits of the owners who do not consent. */
        final int[] refusing = new int[MONTHS];
        final int[] barrels = new int[MONTHS];
        final int[] gross = new int[MONTHS];
        final int[] costs = new int[MONTHS];
        /** By months, and in each by owners, as are the balances, as the month ends. */
        final long[] dues = new long[MONTHS * OWNERS];
        final long[] balances = new long[MONTHS * OWNERS];

        Unit(int firstMonth) {
            this.firstMonth = firstMonth;
        }

        void openMonth(int month) {
            int row = month * OWNERS;
            int rowAhead = row - OWNERS;
            for (int owner = 0; owner < OWNERS; owner++) {
                dues[row + owner] = 0;
                balances[row + owner] = month > firstMonth ? balances[rowAhead + owner] : 0;
            }
        }
    }

    private static final class Well {
        final Unit unit;
        final int[] barrels = new int[MONTHS];
        final int[] prices = new int[MONTHS];
        final int[] costs = new int[MONTHS];

        Well(Unit unit) {
            this.unit = unit;
        }

        void tellOil(int month, int newBarrels, int newPrice) {
            unit.barrels[month] += newBarrels - barrels[month];
            unit.gross[month] += newBarrels * newPrice - barrels[month] * prices[month];
            barrels[month] = newBarrels;
            prices[month] = newPrice;
        }
    }

    /** Weights, and what comes to each of them when an amount is parted to the last one. */
    private static final class Parting {
        final long[] weights;
        final long[] parts;
        final long[] rests;

        Parting(int size) {
            weights = new long[size];
            parts = new long[size];
            rests = new long[size];
        }

        void clear() {
            for (int i = 0; i < weights.length; i++) {
                weights[i] = 0;
            }
        }

        void partOut(long amount) {
            long allWeights = 0;
            for (long weight : weights) {
                allWeights += weight;
            }
            long left = amount;
            for (int i = 0; i < weights.length; i++) {
                // At most 8 tracts of 1000 acres and 10000 parts, in thousandths, times 100000000: it fits a long.
                long product = amount * weights[i];
                parts[i] = allWeights > 0 ? product / allWeights : 0;
                rests[i] = allWeights > 0 ? product % allWeights : 0;
                left -= parts[i];
            }
            for (int given = 0; given < left && given < weights.length; given++) {
                giveOne();
            }
        }

        private void giveOne() {
            int greatest = 0;
            for (int i = 1; i < rests.length; i++) {
                if (rests[i] > rests[greatest]) {
                    greatest = i;
                }
            }
            parts[greatest]++;
            // Below each other rest, so that none gets two.
            rests[greatest] = -1;
        }
    }
}
