import java.math.BigInteger;
import java.util.ArrayList;
import java.util.HashMap;
import java.util.List;
import java.util.Map;
import java.util.TreeMap;

/** The document again, in the plainest way: only what was told is kept, and each answer is worked out from month 0. */
final class PlainModel {
    record Tract(int acres, int owner) {
    }

    record Deed(int tract, int from, int to, int parts, int month) {
    }

    record Lease(int tract, int lessor, int lessee, int royalty, int start, int term) {
    }

    record Unit(int tracts, int start, List<int[]> votes) {
    }

    record Oil(int barrels, int price) {
    }

    record Key(int well, int month) {
    }

    record Share(int owner, boolean isRoyalty, long weight) {
    }

    record Outcome(long[] dues, long[] balances) {
    }

    int month = 0;
    final List<Tract> tracts = new ArrayList<>();
    final List<Deed> deeds = new ArrayList<>();
    final List<Lease> leases = new ArrayList<>();
    final List<Unit> units = new ArrayList<>();
    final List<Integer> wells = new ArrayList<>();
    final Map<Key, Oil> oils = new HashMap<>();
    final Map<Key, Integer> costs = new HashMap<>();
    final TreeMap<Integer, Integer> taxes = new TreeMap<>();
    final boolean[] suspended = new boolean[10];
    final long[] paid = new long[10];
    int penalty = 300;
    int least = 100;

    private static void index(boolean is) {
        if (!is) {
            throw new IndexOutOfBoundsException();
        }
    }

    private static void argument(boolean is) {
        if (!is) {
            throw new IllegalArgumentException();
        }
    }

    private static void state(boolean is) {
        if (!is) {
            throw new IllegalStateException();
        }
    }

    private static boolean in(long number, long low, long high) {
        return low <= number && number <= high;
    }

    private void tractIs(int tract) {
        index(in(tract, 0, tracts.size() - 1));
    }

    private static void ownerIs(int owner) {
        index(in(owner, 0, 9));
    }

    private void monthIs(int asked) {
        index(in(asked, 0, month));
    }

    private void unitMonthIs(int unit, int asked) {
        index(in(unit, 0, units.size() - 1));
        index(in(asked, units.get(unit).start, month));
    }

    int pass(int months) {
        argument(in(months, 1, 12));
        state(month + months <= 60);
        month += months;
        return month;
    }

    int tract(int acres, int owner) {
        ownerIs(owner);
        argument(in(acres, 1, 1000));
        state(tracts.size() < 8);
        tracts.add(new Tract(acres, owner));
        return tracts.size() - 1;
    }

    int deed(int tract, int from, int to, int parts, int start) {
        tractIs(tract);
        ownerIs(from);
        ownerIs(to);
        monthIs(start);
        argument(from != to && in(parts, 1, 10000));
        for (int m = start; m <= month; m++) {
            state(titles(tract, m)[from] >= parts);
        }
        state(deeds.size() < 40);
        deeds.add(new Deed(tract, from, to, parts, start));
        return titles(tract, month)[from];
    }

    private int[] titles(int tract, int asked) {
        int[] titles = new int[10];
        titles[tracts.get(tract).owner] = 10000;
        for (Deed deed : deeds) {
            if (deed.tract == tract && deed.month <= asked) {
                titles[deed.from] -= deed.parts;
                titles[deed.to] += deed.parts;
            }
        }
        return titles;
    }

    int title(int tract, int owner, int asked) {
        tractIs(tract);
        ownerIs(owner);
        monthIs(asked);
        return titles(tract, asked)[owner];
    }

    int lease(int tract, int lessor, int lessee, int royalty, int term) {
        tractIs(tract);
        ownerIs(lessor);
        ownerIs(lessee);
        argument(lessor != lessee && in(royalty, 0, 500) && in(term, 1, 36));
        state(leases.size() < 16);
        leases.add(new Lease(tract, lessor, lessee, royalty, month, term));
        return leases.size() - 1;
    }

    boolean isHeld(int lease, int asked) {
        index(in(lease, 0, leases.size() - 1));
        monthIs(asked);
        return inForce(leases.get(lease), asked);
    }

    private boolean inForce(Lease lease, int asked) {
        if (asked < lease.start + lease.term) {
            return asked >= lease.start;
        }
        int back = asked - 1;
        while (back >= lease.start + lease.term - 1) {
            if (!gaveOil(lease.tract, back)) {
                return false;
            }
            back--;
        }
        return true;
    }

    private boolean gaveOil(int tract, int asked) {
        for (int well = 0; well < wells.size(); well++) {
            boolean isOfTract = (units.get(wells.get(well)).tracts & 1 << tract) != 0;
            if (isOfTract && oils.getOrDefault(new Key(well, asked), new Oil(0, 0)).barrels > 0) {
                return true;
            }
        }
        return false;
    }

    int unit(int bits) {
        argument(bits != 0 && in(bits & 0xffffffffL, 1, (1L << tracts.size()) - 1));
        for (Unit unit : units) {
            state((unit.tracts & bits) == 0);
        }
        state(units.size() < 3);
        units.add(new Unit(bits, month, new ArrayList<>()));
        return units.size() - 1;
    }

    int well(int unit) {
        index(in(unit, 0, units.size() - 1));
        state(wells.size() < 6);
        wells.add(unit);
        return wells.size() - 1;
    }

    int oil(int well, int asked, int barrels, int price) {
        index(in(well, 0, wells.size() - 1));
        monthIs(asked);
        argument(in(barrels, 0, 1000) && in(price, 0, 10000));
        state(units.get(wells.get(well)).start <= asked);
        Oil before = oils.put(new Key(well, asked), new Oil(barrels, price));
        return before == null ? 0 : before.barrels;
    }

    int cost(int well, int asked, int cents) {
        index(in(well, 0, wells.size() - 1));
        monthIs(asked);
        argument(in(cents, 1, 1000000));
        state(units.get(wells.get(well)).start <= asked);
        int all = costs.getOrDefault(new Key(well, asked), 0) + cents;
        state(all <= 10000000);
        costs.put(new Key(well, asked), all);
        return all;
    }

    int tax(int hundredths, int asked) {
        monthIs(asked);
        argument(in(hundredths, 0, 50));
        int before = taxOf(asked);
        taxes.put(asked, hundredths);
        return before;
    }

    private int taxOf(int asked) {
        Map.Entry<Integer, Integer> told = taxes.floorEntry(asked);
        return told == null ? 0 : told.getValue();
    }

    boolean consent(int unit, int owner, boolean consents) {
        index(in(unit, 0, units.size() - 1));
        ownerIs(owner);
        boolean before = consents(unit, owner, month);
        units.get(unit).votes.add(new int[] {owner, month, consents ? 1 : 0});
        return before;
    }

    private boolean consents(int unit, int owner, int asked) {
        boolean is = true;
        for (int[] vote : units.get(unit).votes) {
            if (vote[0] == owner && vote[1] <= asked) {
                is = vote[2] == 1;
            }
        }
        return is;
    }

    int penalty(int hundredths) {
        argument(in(hundredths, 100, 500));
        int before = penalty;
        penalty = hundredths;
        return before;
    }

    private List<Share> deck(int unit, int asked) {
        Map<Integer, Long> royalties = new TreeMap<>();
        Map<Integer, Long> workings = new TreeMap<>();
        for (int tract = 0; tract < tracts.size(); tract++) {
            if ((units.get(unit).tracts & 1 << tract) == 0) {
                continue;
            }
            int[] titles = titles(tract, asked);
            for (int owner = 0; owner < 10; owner++) {
                if (titles[owner] == 0) {
                    continue;
                }
                long weight = (long) tracts.get(tract).acres * titles[owner];
                Lease lease = null;
                for (int number = leases.size() - 1; number >= 0; number--) {
                    Lease other = leases.get(number);
                    if (other.tract == tract && other.lessor == owner && inForce(other, asked)) {
                        lease = other;
                    }
                }
                if (lease == null) {
                    workings.merge(owner, weight * 1000, Long::sum);
                } else {
                    royalties.merge(owner, weight * lease.royalty, Long::sum);
                    workings.merge(lease.lessee, weight * (1000 - lease.royalty), Long::sum);
                }
            }
        }
        List<Share> deck = new ArrayList<>();
        royalties.forEach((owner, weight) -> deck.add(new Share(owner, true, weight)));
        workings.forEach((owner, weight) -> deck.add(new Share(owner, false, weight)));
        return deck;
    }

    private static List<Long> part(long amount, List<Share> shares) {
        BigInteger all = BigInteger.ZERO;
        for (Share share : shares) {
            all = all.add(BigInteger.valueOf(share.weight));
        }
        List<Long> parts = new ArrayList<>();
        List<BigInteger> rests = new ArrayList<>();
        List<Integer> order = new ArrayList<>();
        long left = amount;
        for (Share share : shares) {
            BigInteger[] both = BigInteger.valueOf(amount).multiply(BigInteger.valueOf(share.weight))
                    .divideAndRemainder(all);
            order.add(parts.size());
            parts.add(both[0].longValueExact());
            rests.add(both[1]);
            left -= both[0].longValueExact();
        }
        order.sort((a, b) -> rests.get(b).compareTo(rests.get(a)));
        for (int i = 0; i < left; i++) {
            parts.set(order.get(i), parts.get(order.get(i)) + 1);
        }
        return parts;
    }

    int interest(int unit, int asked, int owner, boolean isRoyalty) {
        unitMonthIs(unit, asked);
        ownerIs(owner);
        List<Share> deck = deck(unit, asked);
        List<Long> parts = part(100000000, deck);
        for (int i = 0; i < deck.size(); i++) {
            if (deck.get(i).owner == owner && deck.get(i).isRoyalty == isRoyalty) {
                return parts.get(i).intValue();
            }
        }
        return 0;
    }

    int revenue(int unit, int asked) {
        unitMonthIs(unit, asked);
        int gross = 0;
        for (int well = 0; well < wells.size(); well++) {
            Oil oil = oils.get(new Key(well, asked));
            if (wells.get(well) == unit && oil != null) {
                gross += oil.barrels * oil.price;
            }
        }
        return gross - (int) Math.floorDiv((long) gross * taxOf(asked), 100L);
    }

    private int costsOf(int unit, int asked) {
        int all = 0;
        for (int well = 0; well < wells.size(); well++) {
            all += wells.get(well) == unit ? costs.getOrDefault(new Key(well, asked), 0) : 0;
        }
        return all;
    }

    /** The dues of the month that is asked for, and the balances as it ends. */
    private Outcome outcome(int unit, int asked) {
        long[] balances = new long[10];
        long[] dues = new long[10];
        for (int m = units.get(unit).start; m <= asked; m++) {
            dues = settle(unit, m, balances);
        }
        return new Outcome(dues, balances);
    }

    private long[] settle(int unit, int asked, long[] balances) {
        List<Share> deck = deck(unit, asked);
        List<Share> workings = deck.stream().filter(s -> !s.isRoyalty).toList();
        List<Share> others = workings.stream()
                .filter(s -> consents(unit, s.owner, asked) && balances[s.owner] == 0).toList();
        List<Share> payers = others.isEmpty() ? workings : others;
        long[] dues = new long[10];
        List<Long> byAll = part(costsOf(unit, asked), workings);
        for (int i = 0; i < workings.size(); i++) {
            if (!payers.contains(workings.get(i))) {
                balances[workings.get(i).owner] += byAll.get(i) * penalty / 100;
            }
        }
        List<Long> byPayers = part(costsOf(unit, asked), payers);
        for (int i = 0; i < payers.size(); i++) {
            dues[payers.get(i).owner] -= byPayers.get(i);
        }
        List<Long> revenues = part(revenue(unit, asked), deck);
        long withheld = 0;
        for (int i = 0; i < deck.size(); i++) {
            Share share = deck.get(i);
            dues[share.owner] += revenues.get(i);
            if (!share.isRoyalty && !payers.contains(share)) {
                long kept = Math.min(balances[share.owner], revenues.get(i));
                dues[share.owner] -= kept;
                balances[share.owner] -= kept;
                withheld += kept;
            }
        }
        List<Long> shares = part(withheld, payers);
        for (int i = 0; i < payers.size(); i++) {
            dues[payers.get(i).owner] += shares.get(i);
        }
        return dues;
    }

    int due(int unit, int asked, int owner) {
        unitMonthIs(unit, asked);
        ownerIs(owner);
        return (int) outcome(unit, asked).dues[owner];
    }

    long balance(int unit, int asked, int owner) {
        unitMonthIs(unit, asked);
        ownerIs(owner);
        return outcome(unit, asked).balances[owner];
    }

    boolean agrees(int unit, int asked) {
        unitMonthIs(unit, asked);
        long all = 0;
        for (long due : outcome(unit, asked).dues) {
            all += due;
        }
        return all == revenue(unit, asked) - costsOf(unit, asked);
    }

    boolean suspend(int owner, boolean is) {
        ownerIs(owner);
        boolean before = suspended[owner];
        suspended[owner] = is;
        return before;
    }

    int least(int cents) {
        argument(in(cents, 1, 100000));
        int before = least;
        least = cents;
        return before;
    }

    private long[] allOwed() {
        long[] owed = new long[10];
        for (int owner = 0; owner < 10; owner++) {
            owed[owner] = -paid[owner];
        }
        for (int unit = 0; unit < units.size(); unit++) {
            long[] balances = new long[10];
            for (int m = units.get(unit).start; m <= month; m++) {
                long[] dues = settle(unit, m, balances);
                for (int owner = 0; owner < 10; owner++) {
                    owed[owner] += dues[owner];
                }
            }
        }
        return owed;
    }

    long payDay() {
        long[] owed = allOwed();
        long all = 0;
        for (int owner = 0; owner < 10; owner++) {
            if (!suspended[owner] && owed[owner] >= least) {
                paid[owner] += owed[owner];
                all += owed[owner];
            }
        }
        return all;
    }

    long owed(int owner) {
        ownerIs(owner);
        return allOwed()[owner];
    }

    long paid(int owner) {
        ownerIs(owner);
        return paid[owner];
    }
}
