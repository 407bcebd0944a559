/** What the terms say of all calls, and of months, tracts, titles, leases, units and oil: each sentence at its bounds. */
final class TermsBounds {
    private static final String TERMS = "Terms";

    private final Document doc;

    TermsBounds(Document doc) {
        this.doc = doc;
    }

    void all() {
        aim();
        exceptionsThatComeFirst();
        refusedCalls();
        nothingThere();
        parting();
        months();
        titles();
        leases();
        held();
        lowestLease();
        units();
        wells();
        revenues();
    }

    private void aim() {
        doc.test("What it is", "Oil shared among many:", () -> {
            Divisionorder x = new Divisionorder();
            x.tract(100, 0);
            x.lease(0, 0, 5, 125, 24);
            x.unit(1);
            x.well(0);
            x.oil(0, 0, 100, 1000);
            Check.same("all of it", x.payDay(), 100000);
            x.tax(10, 0);
            Rows.owed(x, -1250, 0, 0, 0, 0, -8750);
            x.pass(1);
            x.oil(0, 1, 100, 1000);
            Check.same("less what was paid too much", x.payDay(), 80000);
            Rows.paid(x, 22500, 0, 0, 0, 0, 157500);
        });
        doc.test("What it is", "An object is used for at most 512 calls", () -> {
            Divisionorder x = Scenes.one();
            for (int call = 4; call <= 511; call++) {
                x.oil(0, 0, call, 1);
            }
            Check.same("the last call", x.payDay(), 511);
        });
        doc.test(TERMS, "The aim is that each month's money is parted to the cent", () -> {
            Divisionorder x = Scenes.three();
            x.least(1);
            x.oil(0, 0, 1, 1);
            Rows.dues(x, 0, 0, 0, 1, 0);
            Check.same("the one cent", x.payDay(), 1);
            x.deed(0, 1, 0, 5000, 0);
            Rows.owed(x, 1, -1);
            Check.same("made good", x.payDay(), 1);
            Rows.paid(x, 1, 1);
        });
    }

    private void exceptionsThatComeFirst() {
        doc.test(TERMS, "If several exceptions apply to a call", () -> {
            ofPassTractAndDeed();
            ofLeaseUnitAndWell();
            ofOilCostAndTax();
        });
    }

    private static void ofPassTractAndDeed() {
        Check.Making last = Scenes::inTheLastMonth;
        Check.refuses("0 behind 60", Check.ARGUMENT, last, y -> y.pass(0));
        Check.refuses("13 behind 60", Check.ARGUMENT, last, y -> y.pass(13));
        Check.refuses("most of all behind 60", Check.ARGUMENT, last, y -> y.pass(Integer.MAX_VALUE));
        Check.Making tracts = Scenes::fullOfTracts;
        Check.refuses("owner, acres", Check.INDEX, Scenes::busy, y -> y.tract(0, 10));
        Check.refuses("owner, nine", Check.INDEX, tracts, y -> y.tract(1, -1));
        Check.refuses("owner, acres, nine", Check.INDEX, tracts, y -> y.tract(1001, 10));
        Check.refuses("acres, nine", Check.ARGUMENT, tracts, y -> y.tract(0, 0));
        Check.Making deeds = Scenes::fullOfDeeds;
        Check.refuses("tract, the same", Check.INDEX, Scenes::busy, y -> y.deed(2, 0, 0, 1, 0));
        Check.refuses("two owners, the same", Check.INDEX, Scenes::busy, y -> y.deed(0, 10, 10, 1, 0));
        Check.refuses("owner, parts", Check.INDEX, Scenes::busy, y -> y.deed(0, 0, -1, 0, 0));
        Check.refuses("month, parts", Check.INDEX, Scenes::busy, y -> y.deed(0, 0, 1, 10001, 3));
        Check.refuses("month, has not so many", Check.INDEX, Scenes::busy, y -> y.deed(0, 9, 1, 1, -1));
        Check.refuses("tract, forty-one", Check.INDEX, deeds, y -> y.deed(-1, 0, 1, 1, 2));
        Check.refuses("month, the same, forty-one", Check.INDEX, deeds, y -> y.deed(0, 0, 0, 1, 3));
        Check.refuses("the same, has not so many", Check.ARGUMENT, Scenes::busy, y -> y.deed(0, 9, 9, 1, 0));
        Check.refuses("parts, has not so many", Check.ARGUMENT, Scenes::busy, y -> y.deed(0, 0, 1, 10001, 0));
        Check.refuses("the same, forty-one", Check.ARGUMENT, deeds, y -> y.deed(0, 0, 0, 1, 2));
        Check.refuses("parts, forty-one", Check.ARGUMENT, deeds, y -> y.deed(0, 0, 1, 0, 2));
    }

    private static void ofLeaseUnitAndWell() {
        Check.Making leases = Scenes::fullOfLeases;
        Check.refuses("tract, royalty", Check.INDEX, Scenes::busy, y -> y.lease(2, 0, 1, 501, 1));
        Check.refuses("two owners, the same", Check.INDEX, Scenes::busy, y -> y.lease(0, -1, -1, 1, 1));
        Check.refuses("owner, royalty, term", Check.INDEX, Scenes::busy, y -> y.lease(0, 0, 10, -1, 37));
        Check.refuses("owner, seventeen", Check.INDEX, leases, y -> y.lease(0, 10, 0, 1, 1));
        Check.refuses("tract, term, seventeen", Check.INDEX, leases, y -> y.lease(-1, 0, 1, 1, 0));
        Check.refuses("the same, seventeen", Check.ARGUMENT, leases, y -> y.lease(0, 1, 1, 1, 1));
        Check.refuses("royalty, seventeen", Check.ARGUMENT, leases, y -> y.lease(0, 0, 1, 501, 1));
        Check.refuses("term, seventeen", Check.ARGUMENT, leases, y -> y.lease(0, 0, 1, 1, 0));
        Check.Making units = Scenes::fullOfUnits;
        Check.refuses("no tract, of a unit", Check.ARGUMENT, Scenes::busy, y -> y.unit(4 + 1));
        Check.refuses("no tract, four", Check.ARGUMENT, units, y -> y.unit(16 + 8));
        Check.refuses("none, four", Check.ARGUMENT, units, y -> y.unit(0));
        Check.refuses("no tract, of a unit, four", Check.ARGUMENT, units, y -> y.unit(Integer.MIN_VALUE + 1));
        Check.refuses("unit, seven", Check.INDEX, Scenes::fullOfWells, y -> y.well(2));
        Check.refuses("unit, seven", Check.INDEX, Scenes::fullOfWells, y -> y.well(-1));
    }

    private static void ofOilCostAndTax() {
        Check.refuses("well, barrels", Check.INDEX, Scenes::busy, y -> y.oil(2, 0, 1001, 1));
        Check.refuses("month, price", Check.INDEX, Scenes::busy, y -> y.oil(0, 3, 1, 10001));
        Check.refuses("month, ahead of the unit", Check.INDEX, Scenes::busy, y -> y.oil(1, -1, 1, 1));
        Check.refuses("month, barrels, ahead of the unit", Check.INDEX, Scenes::busy, y -> y.oil(1, -1, -1, -1));
        Check.refuses("barrels, ahead of the unit", Check.ARGUMENT, Scenes::busy, y -> y.oil(1, 0, 1001, 1));
        Check.refuses("price, ahead of the unit", Check.ARGUMENT, Scenes::busy, y -> y.oil(1, 0, 1, -1));
        Check.Making costs = Scenes::fullOfCosts;
        Check.refuses("well, cents", Check.INDEX, Scenes::busy, y -> y.cost(-1, 0, 0));
        Check.refuses("month, cents", Check.INDEX, Scenes::busy, y -> y.cost(0, 3, 1000001));
        Check.refuses("month, ahead of the unit", Check.INDEX, Scenes::busy, y -> y.cost(1, -1, 1));
        Check.refuses("cents, ahead of the unit", Check.ARGUMENT, Scenes::busy, y -> y.cost(1, 0, 0));
        Check.refuses("cents, too much", Check.ARGUMENT, costs, y -> y.cost(0, 2, 1000001));
        Check.refuses("cents, too much", Check.ARGUMENT, costs, y -> y.cost(0, 2, Integer.MAX_VALUE));
        Check.refuses("month, hundredths", Check.INDEX, Scenes::busy, y -> y.tax(51, 3));
        Check.refuses("month, hundredths", Check.INDEX, Scenes::busy, y -> y.tax(-1, -1));
    }

    /** One refused call of each kind that {@link Scenes#busy} refuses. */
    private static final Check.Call[] REFUSED = {
        y -> y.pass(0), y -> y.pass(13), y -> y.tract(1, 10), y -> y.tract(0, 0), y -> y.tract(1001, 0),
        y -> y.deed(2, 0, 1, 1, 0), y -> y.deed(0, 0, 1, 1, 3), y -> y.deed(0, 0, 0, 1, 0), y -> y.deed(0, 0, 1, 0, 0),
        y -> y.deed(0, 9, 1, 1, 0), y -> y.title(0, 0, 3), y -> y.lease(0, 0, 10, 1, 1), y -> y.lease(0, 0, 0, 1, 1),
        y -> y.lease(0, 0, 1, 501, 1), y -> y.lease(0, 0, 1, 1, 37), y -> y.isHeld(2, 0), y -> y.unit(0),
        y -> y.unit(4), y -> y.unit(1), y -> y.well(2), y -> y.oil(0, 3, 1, 1), y -> y.oil(0, 0, 1001, 1),
        y -> y.oil(0, 0, 1, 10001), y -> y.oil(1, 0, 1, 1), y -> y.cost(0, 3, 1), y -> y.cost(0, 0, 0),
        y -> y.cost(1, 0, 1), y -> y.tax(1, 3), y -> y.tax(51, 0), y -> y.consent(0, 10, false), y -> y.penalty(99),
        y -> y.interest(0, 3, 0, true), y -> y.revenue(1, 0), y -> y.due(0, 0, 10), y -> y.balance(2, 2, 0),
        y -> y.agrees(0, -1), y -> y.suspend(10, true), y -> y.least(0), y -> y.owed(10), y -> y.paid(-1)};

    private void refusedCalls() {
        doc.test(TERMS, "A call that throws an exception changes nothing.", () -> {
            for (Check.Making making : new Check.Making[] {Scenes::busy, Scenes::busyAndAsked}) {
                Divisionorder all = making.make();
                for (int i = 0; i < REFUSED.length; i++) {
                    String due = Check.answer(making.make(), REFUSED[i]);
                    Check.same("call " + i, due.startsWith("throws."), true);
                    Check.refuses("call " + i, due, making, REFUSED[i]);
                    Check.answer(all, REFUSED[i]);
                }
                Check.same("after all of them", Probe.answers(all), Probe.answers(making.make()));
            }
            Check.refuses("nine tracts", Check.STATE, Scenes::fullOfTracts, y -> y.tract(1, 0));
            Check.refuses("forty-one deeds", Check.STATE, Scenes::fullOfDeeds, y -> y.deed(0, 0, 1, 1, 2));
            Check.refuses("seventeen leases", Check.STATE, Scenes::fullOfLeases, y -> y.lease(0, 0, 1, 1, 1));
            Check.refuses("four units", Check.STATE, Scenes::fullOfUnits, y -> y.unit(8));
            Check.refuses("seven wells", Check.STATE, Scenes::fullOfWells, y -> y.well(0));
            Check.refuses("too much", Check.STATE, Scenes::fullOfCosts, y -> y.cost(0, 2, 1));
            Check.refuses("month 61", Check.STATE, Scenes::inTheLastMonth, y -> y.pass(1));
        });
        doc.test(TERMS, "Divisions are rounded down", () -> {
            Divisionorder x = Scenes.three();
            x.deed(0, 1, 0, 2000, 0);
            x.deed(0, 2, 1, 2000, 0);
            // Two halves: below 0 a half of 3 would be rounded to -2 for both.
            x.cost(0, 0, 3);
            Rows.dues(x, 0, 0, -2, -1);
            x.oil(0, 0, 1, 99);
            x.tax(1, 0);
            Check.same("a hundredth of 99 is 0", x.revenue(0, 0), 99);
            x.oil(0, 0, 1, 199);
            Check.same("a hundredth of 199 is 1", x.revenue(0, 0), 198);
            x.consent(0, 1, false);
            x.oil(0, 0, 0, 0);
            x.penalty(199);
            Check.same("199 hundredths of 1 are 1", x.balance(0, 0, 1), 1);
        });
    }

    private void nothingThere() {
        doc.test(TERMS, "IndexOutOfBoundsException: there is no such", () -> {
            Divisionorder x = new Divisionorder();
            Check.same("tract 0 of none", Check.answer(x, y -> y.title(0, 0, 0)), Check.INDEX);
            x.tract(1, 0);
            Check.same("tract 0 of 1", x.title(0, 0, 0), 10000);
            Check.same("tract 1 of 1", Check.answer(x, y -> y.title(1, 0, 0)), Check.INDEX);
            Check.same("lease 0 of none", Check.answer(x, y -> y.isHeld(0, 0)), Check.INDEX);
            x.lease(0, 0, 1, 0, 1);
            Check.same("lease 0 of 1", x.isHeld(0, 0), true);
            Check.same("lease 1 of 1", Check.answer(x, y -> y.isHeld(1, 0)), Check.INDEX);
            Check.same("unit 0 of none", Check.answer(x, y -> y.revenue(0, 0)), Check.INDEX);
            x.unit(1);
            Check.same("unit 0 of 1", x.revenue(0, 0), 0);
            Check.same("unit 1 of 1", Check.answer(x, y -> y.revenue(1, 0)), Check.INDEX);
            Check.same("well 0 of none", Check.answer(x, y -> y.oil(0, 0, 0, 0)), Check.INDEX);
            x.well(0);
            Check.same("well 0 of 1", x.oil(0, 0, 0, 0), 0);
            Check.same("well 1 of 1", Check.answer(x, y -> y.oil(1, 0, 0, 0)), Check.INDEX);
            Check.same("owner 10", Check.answer(x, y -> y.owed(10)), Check.INDEX);
            Check.same("month 1", Check.answer(x, y -> y.title(0, 0, 1)), Check.INDEX);
            Check.answers("tract 8 of 8", Check.INDEX, Scenes::fullOfTracts, y -> y.title(8, 0, 0));
            Check.answers("lease 16 of 16", Check.INDEX, Scenes::fullOfLeases, y -> y.isHeld(16, 0));
            Check.answers("unit 3 of 3", Check.INDEX, Scenes::fullOfUnits, y -> y.revenue(3, 2));
            Check.answers("well 6 of 6", Check.INDEX, Scenes::fullOfWells, y -> y.oil(6, 2, 0, 0));
            Check.answers("month 61", Check.INDEX, Scenes::inTheLastMonth, y -> y.title(0, 0, 61));
        });
    }

    private void parting() {
        doc.test(TERMS, "To part an amount by weights", () -> {
            Divisionorder x = Scenes.three();
            Rows.dues(x, 0, 0);
            x.oil(0, 0, 1, 10);
            Rows.dues(x, 0, 0, 3, 5, 2);
            x.oil(0, 0, 1, 2);
            // 0.6, 1 and 0.4
            Rows.dues(x, 0, 0, 1, 1, 0);
            x.oil(0, 0, 1, 9);
            // 2.7, 4.5 and 1.8
            Rows.dues(x, 0, 0, 3, 4, 2);
            x.oil(0, 0, 1, 5);
            // 1.5, 2.5 and 1
            Rows.dues(x, 0, 0, 2, 2, 1);
            partingWithWeightsOf0();
            partingByTwenty();
            partingOfTheMost();
        });
    }

    private static void partingWithWeightsOf0() {
        Divisionorder x = Scenes.one();
        x.lease(0, 0, 9, 0, 9);
        x.oil(0, 0, 1, 1);
        Rows.royalties(x, 0, 0);
        Rows.dues(x, 0, 0, 0, 0, 0, 0, 0, 0, 0, 0, 0, 1);
        x.deed(0, 0, 1, 5000, 0);
        Rows.dues(x, 0, 0, 0, 1);
        x.deed(0, 1, 2, 2500, 0);
        x.oil(0, 0, 1, 3);
        // Of owner 1 and 2 0.75 each, of owner 9 1.5
        Rows.dues(x, 0, 0, 0, 1, 1, 0, 0, 0, 0, 0, 0, 1);
    }

    private static void partingByTwenty() {
        Divisionorder x = Scenes.one();
        for (int owner = 1; owner < 10; owner++) {
            x.deed(0, 0, owner, 1000, 0);
        }
        for (int owner = 0; owner < 10; owner++) {
            x.lease(0, owner, (owner + 1) % 10, 500, 1);
        }
        // Ten royalties and ten working interests, all the same.
        x.oil(0, 0, 1, 19);
        Rows.dues(x, 0, 0, 2, 2, 2, 2, 2, 2, 2, 2, 2, 1);
        x.oil(0, 0, 1, 9);
        Rows.dues(x, 0, 0, 1, 1, 1, 1, 1, 1, 1, 1, 1, 0);
        x.oil(0, 0, 1, 20);
        Rows.dues(x, 0, 0, 2, 2, 2, 2, 2, 2, 2, 2, 2, 2);
        x.oil(0, 0, 1, 21);
        Rows.dues(x, 0, 0, 3, 2, 2, 2, 2, 2, 2, 2, 2, 2);
        x.oil(0, 0, 0, 0);
        x.cost(0, 0, 9);
        Rows.dues(x, 0, 0, -1, -1, -1, -1, -1, -1, -1, -1, -1, 0);
    }

    private static void partingOfTheMost() {
        Divisionorder x = new Divisionorder();
        for (int tract = 0; tract < 8; tract++) {
            x.tract(1000, 7);
        }
        x.unit(255);
        for (int well = 0; well < 6; well++) {
            x.well(0);
            x.oil(well, 0, 1000, 10000);
        }
        x.deed(7, 7, 3, 1, 0);
        // Of 80000 parts one: of 60000000 750, of 100000000 1250.
        Rows.dues(x, 0, 0, 0, 0, 0, 750, 0, 0, 0, 59999250);
        Rows.workings(x, 0, 0, 0, 0, 0, 1250, 0, 0, 0, 99998750);
        x.lease(7, 3, 7, 1, 1);
        // The royalty is one thousandth of that: 0.75 and 1.25.
        Rows.dues(x, 0, 0, 0, 0, 0, 1, 0, 0, 0, 59999999);
        Rows.royalties(x, 0, 0, 0, 0, 0, 1);
        Rows.workings(x, 0, 0, 0, 0, 0, 0, 0, 0, 0, 99999999);
    }

    private void months() {
        doc.test(TERMS, "The month of now is 0 at first, at most 60.", () -> {
            Divisionorder x = new Divisionorder();
            Check.same("month 0", x.tax(0, 0), 0);
            Check.same("month 1", Check.answer(x, y -> y.tax(0, 1)), Check.INDEX);
            for (int times = 1; times <= 5; times++) {
                Check.same("12 more", x.pass(12), 12 * times);
            }
            Check.same("month 60", x.tax(0, 60), 0);
            Check.same("to month 61", Check.answer(x, y -> y.pass(1)), Check.STATE);
            Check.same("month 61", Check.answer(x, y -> y.tax(0, 61)), Check.INDEX);
            Check.same("still month 60", x.tax(0, 60), 0);
        });
        doc.test(TERMS, "There are the owners 0 to 9.", () -> {
            for (int owner = 0; owner < 10; owner++) {
                Divisionorder x = new Divisionorder();
                x.tract(1, owner);
                x.unit(1);
                x.well(0);
                x.oil(0, 0, 100, 1);
                Check.same("owed to " + owner, x.owed(owner), 100);
                Check.same("paid", x.payDay(), 100);
                Check.same("paid to " + owner, x.paid(owner), 100);
            }
            Check.answers("owner -1", Check.INDEX, Divisionorder::new, y -> y.tract(1, -1));
            Check.answers("owner 10", Check.INDEX, Divisionorder::new, y -> y.tract(1, 10));
        });
    }

    private void titles() {
        doc.test(TERMS, "Tracts are numbered from 0, at most 8: with acres, 1 to 1000", () -> {
            Divisionorder x = new Divisionorder();
            for (int tract = 0; tract < 8; tract++) {
                Check.same("its number", x.tract(tract % 2 == 0 ? 1 : 1000, tract + 2), tract);
            }
            Check.same("nine", Check.answer(x, y -> y.tract(1, 0)), Check.STATE);
            Rows.titles(x, 0, 0, 0, 0, 10000);
            Rows.titles(x, 7, 0, 0, 0, 0, 0, 0, 0, 0, 0, 0, 10000);
            Check.answers("acres 0", Check.ARGUMENT, Divisionorder::new, y -> y.tract(0, 0));
            Check.answers("acres 1001", Check.ARGUMENT, Divisionorder::new, y -> y.tract(1001, 0));
        });
        doc.test(TERMS, "A deed is of some parts of a tract", () -> {
            Divisionorder x = new Divisionorder();
            x.tract(1, 0);
            x.tract(1, 1);
            x.pass(12);
            Check.same("one part, gone by", x.deed(0, 0, 1, 1, 0), 9999);
            Check.same("all parts, now", x.deed(1, 1, 0, 10000, 12), 0);
            for (int deed = 2; deed < 40; deed++) {
                Check.same("deed " + deed, x.deed(0, 0, 9, 1, deed % 13), 10000 - deed);
            }
            Check.same("forty-one", Check.answer(x, y -> y.deed(0, 0, 9, 1, 12)), Check.STATE);
            Check.same("of another tract", Check.answer(x, y -> y.deed(1, 0, 9, 1, 12)), Check.STATE);
            Rows.titles(x, 0, 12, 9961, 1, 0, 0, 0, 0, 0, 0, 0, 38);
            Rows.titles(x, 1, 11, 0, 10000);
            Rows.titles(x, 1, 12, 10000);
        });
        doc.test(TERMS, "The title of an owner to a tract in a month is by all deeds", () -> {
            Divisionorder x = new Divisionorder();
            x.tract(1, 0);
            x.pass(12);
            x.deed(0, 0, 1, 100, 5);
            Rows.titles(x, 0, 4, 10000);
            Rows.titles(x, 0, 5, 9900, 100);
            Rows.titles(x, 0, 12, 9900, 100);
            x.deed(0, 0, 1, 50, 5);
            Rows.titles(x, 0, 5, 9850, 150);
            x.deed(0, 0, 1, 7, 4);
            Rows.titles(x, 0, 3, 10000);
            Rows.titles(x, 0, 4, 9993, 7);
            Rows.titles(x, 0, 5, 9843, 157);
            x.pass(1);
            Rows.titles(x, 0, 13, 9843, 157);
        });
    }

    private void leases() {
        doc.test(TERMS, "Leases are numbered from 0, at most 16", () -> {
            Divisionorder x = Scenes.one();
            x.pass(1);
            for (int lease = 0; lease < 16; lease++) {
                Check.same("its number", x.lease(0, lease % 9, 9, 500 - lease, lease % 2 == 0 ? 36 : 1), lease);
            }
            Check.same("seventeen", Check.answer(x, y -> y.lease(0, 0, 9, 1, 1)), Check.STATE);
            Rows.royalties(x, 0, 0);
            Rows.royalties(x, 0, 1, 50000000);
            x.pass(2);
            x.deed(0, 0, 1, 10000, 2);
            // Lease 1 is for one month, lease 10 for 36.
            Rows.royalties(x, 0, 2, 0, 49000000);
            x.deed(0, 1, 0, 4000, 3);
            Rows.royalties(x, 0, 3, 20000000, 29400000);
            Rows.workings(x, 0, 3, 0, 0, 0, 0, 0, 0, 0, 0, 0, 50600000);
        });
    }

    private void held() {
        doc.test(TERMS, "Behind its term it is held as long as", () -> {
            Divisionorder x = Scenes.one();
            x.well(0);
            x.lease(0, 0, 1, 100, 2);
            x.pass(5);
            Rows.held(x, 0, "xx----");
            x.oil(0, 1, 1, 0);
            Rows.held(x, 0, "xxx---");
            x.oil(0, 0, 1, 1);
            Rows.held(x, 0, "xxx---");
            x.oil(0, 3, 1, 1);
            Rows.held(x, 0, "xxx---");
            x.oil(1, 2, 1, 0);
            Rows.held(x, 0, "xxxxx-");
            x.oil(0, 1, 0, 10000);
            Rows.held(x, 0, "xx----");
            x.oil(1, 1, 1000, 0);
            Rows.held(x, 0, "xxxxx-");
            x.oil(0, 4, 1, 0);
            Rows.held(x, 0, "xxxxxx");
            x.oil(0, 5, 0, 0);
            Rows.held(x, 0, "xxxxxx");
            heldByTheUnitOfTheTract();
        });
    }

    private static void heldByTheUnitOfTheTract() {
        Divisionorder x = new Divisionorder();
        x.tract(1, 0);
        x.tract(1, 0);
        x.lease(0, 0, 1, 100, 1);
        x.lease(0, 0, 1, 100, 2);
        x.lease(1, 0, 1, 100, 2);
        x.pass(1);
        Rows.held(x, 0, "x-");
        x.unit(1);
        x.well(0);
        x.unit(2);
        x.well(1);
        x.oil(0, 1, 1, 0);
        x.pass(1);
        // In month 0 the tract was of no unit.
        Rows.held(x, 0, "x--");
        Rows.held(x, 1, "xxx");
        Rows.held(x, 2, "xx-");
        x.oil(1, 1, 1, 0);
        Rows.held(x, 2, "xxx");
    }

    private void lowestLease() {
        doc.test(TERMS, "Of several leases of one lessor and tract", () -> {
            Divisionorder x = Scenes.one();
            x.tract(1, 0);
            x.lease(1, 0, 7, 500, 36);
            x.lease(0, 7, 8, 500, 36);
            x.lease(0, 0, 1, 100, 1);
            x.lease(0, 0, 2, 200, 3);
            x.lease(0, 0, 1, 300, 2);
            x.pass(3);
            Rows.royalties(x, 0, 0, 10000000);
            Rows.royalties(x, 0, 1, 20000000);
            Rows.royalties(x, 0, 2, 20000000);
            Rows.royalties(x, 0, 3);
            x.oil(0, 1, 1, 0);
            x.oil(0, 2, 1, 0);
            // Lease 4 is held by these two, lease 3 by the second one.
            Rows.royalties(x, 0, 3, 20000000);
            x.oil(0, 0, 1, 0);
            Rows.royalties(x, 0, 3, 10000000);
        });
    }

    private void units() {
        doc.test(TERMS, "Units are numbered from 0, at most 3", () -> {
            Divisionorder x = new Divisionorder();
            for (int owner = 0; owner < 8; owner++) {
                x.tract(1, owner);
            }
            x.pass(1);
            Check.same("its number", x.unit(128 + 1), 0);
            Check.same("its number", x.unit(2), 1);
            Check.same("of a unit", Check.answer(x, y -> y.unit(4 + 1)), Check.STATE);
            x.pass(1);
            Check.same("its number", x.unit(4), 2);
            Check.same("four", Check.answer(x, y -> y.unit(8)), Check.STATE);
            Rows.workings(x, 0, 1, 50000000, 0, 0, 0, 0, 0, 0, 50000000);
            Rows.workings(x, 1, 1, 0, 100000000);
            Check.same("ahead of unit 0", Check.answer(x, y -> y.revenue(0, 0)), Check.INDEX);
            Check.same("ahead of unit 2", Check.answer(x, y -> y.revenue(2, 1)), Check.INDEX);
            Check.same("from then on", x.revenue(2, 2), 0);
        });
        doc.test(TERMS, "A tract weighs its acres.", () -> {
            Divisionorder x = new Divisionorder();
            x.tract(1, 0);
            x.tract(999, 1);
            x.tract(1000, 2);
            x.unit(7);
            Rows.workings(x, 0, 0, 50000, 49950000, 50000000);
        });
    }

    private void wells() {
        doc.test(TERMS, "Wells are numbered from 0, at most 6", () -> {
            Divisionorder x = Scenes.one();
            x.tract(1, 1);
            x.unit(2);
            for (int well = 1; well < 6; well++) {
                Check.same("its number", x.well(well % 2), well);
            }
            Check.same("seven", Check.answer(x, y -> y.well(0)), Check.STATE);
            Check.same("seven, of another unit", Check.answer(x, y -> y.well(1)), Check.STATE);
            x.oil(4, 0, 1, 3);
            x.oil(5, 0, 1, 5);
            Check.same("of its unit", x.revenue(0, 0), 3);
            Check.same("of its unit", x.revenue(1, 0), 5);
        });
        doc.test(TERMS, "Of a well and a month up to now is told", () -> {
            Divisionorder x = Scenes.one();
            x.pass(1);
            Check.same("up to now", x.oil(0, 1, 1000, 10000), 0);
            Check.same("behind now", Check.answer(x, y -> y.oil(0, 2, 1, 1)), Check.INDEX);
            for (int barrels = 0; barrels < 400; barrels++) {
                Check.same("anew", x.oil(0, 0, barrels, 1000 - barrels), Math.max(0, barrels - 1));
            }
            Check.same("the last one alone", x.revenue(0, 0), 399 * 601);
            Check.same("the other month", x.revenue(0, 1), 10000000);
            x.cost(0, 0, 1);
            x.cost(0, 0, 1);
            Check.same("costs are added up", x.due(0, 0, 0), 399 * 601 - 2);
            Check.same("costs behind now", Check.answer(x, y -> y.cost(0, 2, 1)), Check.INDEX);
        });
    }

    private void revenues() {
        doc.test(TERMS, "What a unit gave in a month are the barrels of its wells", () -> {
            Divisionorder x = Scenes.one();
            x.well(0);
            x.pass(3);
            Rows.revenues(x, 0, 0, 0, 0, 0);
            for (int month = 0; month <= 3; month++) {
                x.oil(0, month, 3, 33);
                x.oil(1, month, 1, 100);
            }
            Rows.revenues(x, 0, 199, 199, 199, 199);
            // The tax is of both wells together: a half of 199 is 99, of 99 and 100 it would be 49 and 50.
            x.tax(50, 1);
            Rows.revenues(x, 0, 199, 100, 100, 100);
            x.tax(1, 3);
            Rows.revenues(x, 0, 199, 100, 100, 198);
            x.tax(0, 2);
            Rows.revenues(x, 0, 199, 100, 199, 198);
            x.pass(1);
            x.oil(0, 4, 1, 200);
            Check.same("of the last one told", x.revenue(0, 4), 198);
        });
        doc.test(TERMS, "(Of several tellings for one month the last one counts.)", () -> {
            Divisionorder x = Scenes.one();
            x.pass(1);
            x.oil(0, 1, 10, 10);
            x.tax(50, 1);
            x.tax(20, 1);
            Rows.revenues(x, 0, 0, 80);
            x.tax(50, 0);
            Rows.revenues(x, 0, 0, 80);
            x.oil(0, 1, 10, 20);
            x.oil(0, 1, 1, 10);
            Rows.revenues(x, 0, 0, 8);
            x.tax(0, 1);
            Rows.revenues(x, 0, 0, 10);
        });
    }
}
