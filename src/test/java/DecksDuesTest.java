/** Promises 15 to 19. */
public final class DecksDuesTest {
    public static void main(String[] args) {
        interestOfTitles();
        interestRests();
        interestOfLeases();
        interestOfTheLowestLease();
        interestAtItsGreatest();
        interestWrong();
        revenue();
        dueOfCosts();
        dueOfOneCarried();
        dueOfAllSo();
        dueOfRoyalties();
        dueOfLateDeed();
        dueOfLateOil();
        dueOfLateCostsAndVotes();
        dueOfAllSoButNotOwner0();
        dueInTheLastMonth();
        balanceWithoutInterest();
        balanceAtItsGreatest();
        agrees();
        wrong();
        Check.end("DecksDuesTest");
    }

    private static void deck(String what, Divisionorder x, int month, boolean isRoyalty, int... due) {
        for (int owner = 0; owner < 10; owner++) {
            int parts = owner < due.length ? due[owner] : 0;
            Check.same("15: " + what + ", owner " + owner, x.interest(0, month, owner, isRoyalty), parts);
        }
    }

    private static void dues(String what, Divisionorder x, int month, int... due) {
        for (int owner = 0; owner < 10; owner++) {
            int cents = owner < due.length ? due[owner] : 0;
            Check.same("17: " + what + ", owner " + owner, x.due(0, month, owner), cents);
        }
        Check.same("19: " + what, x.agrees(0, month), true);
    }

    private static void interestOfTitles() {
        Divisionorder x = new Divisionorder();
        x.tract(30, 0);
        x.tract(10, 1);
        x.tract(1000, 2);
        x.unit(3);
        x.pass(2);
        x.deed(0, 0, 1, 5000, 1);
        x.deed(1, 1, 3, 2500, 2);
        deck("first", x, 0, false, 75000000, 25000000);
        deck("behind the deed", x, 1, false, 37500000, 62500000);
        deck("behind both", x, 2, false, 37500000, 56250000, 0, 6250000);
        deck("royalties", x, 2, true);
    }

    private static void interestRests() {
        Divisionorder x = new Divisionorder();
        x.tract(1, 2);
        x.tract(1, 1);
        x.tract(1, 0);
        x.unit(7);
        deck("the first one of equal rests", x, 0, false, 33333334, 33333333, 33333333);
        x.deed(0, 2, 1, 10000, 0);
        deck("the greatest rest", x, 0, false, 33333333, 66666667);
        x.lease(0, 1, 3, 500, 9);
        x.lease(1, 1, 3, 500, 9);
        deck("two thirds leased", x, 0, true, 0, 33333334);
        deck("two thirds leased", x, 0, false, 33333333, 0, 0, 33333333);
        Divisionorder y = new Divisionorder();
        for (int owner = 0; owner < 7; owner++) {
            y.tract(1, owner);
        }
        y.unit(127);
        deck("five left", y, 0, false, 14285715, 14285715, 14285714, 14285714, 14285714, 14285714, 14285714);
    }

    private static void interestOfLeases() {
        Divisionorder x = Scenes.three();
        x.lease(0, 1, 4, 200, 2);
        x.lease(0, 2, 0, 0, 2);
        deck("leased", x, 0, true, 0, 10000000);
        deck("leased", x, 0, false, 50000000, 0, 0, 0, 40000000);
        x.pass(1);
        x.deed(0, 1, 5, 2500, 1);
        deck("what the lessor has is leased", x, 1, true, 0, 5000000);
        deck("what the lessor has is leased", x, 1, false, 50000000, 0, 0, 0, 20000000, 25000000);
        x.deed(0, 0, 1, 3000, 1);
        deck("what the lessor gets is leased", x, 1, true, 0, 11000000);
        deck("what the lessor gets is leased", x, 1, false, 20000000, 0, 0, 0, 44000000, 25000000);
        x.deed(0, 2, 4, 2000, 1);
        deck("the lessee's own", x, 1, false, 0, 0, 0, 0, 64000000, 25000000);
        x.pass(1);
        deck("not held", x, 2, true);
        deck("not held", x, 2, false, 0, 55000000, 0, 0, 20000000, 25000000);
        x.oil(0, 1, 1, 0);
        deck("held", x, 2, true, 0, 11000000);
        deck("held", x, 2, false, 0, 0, 0, 0, 64000000, 25000000);
    }

    private static void interestOfTheLowestLease() {
        Divisionorder x = Scenes.one();
        x.tract(10, 0);
        x.lease(1, 0, 9, 500, 30);
        x.lease(0, 7, 9, 500, 30);
        x.lease(0, 0, 1, 100, 1);
        x.lease(0, 0, 2, 200, 3);
        x.lease(0, 0, 3, 300, 2);
        x.pass(1);
        x.lease(0, 0, 4, 400, 5);
        x.pass(2);
        deck("the lowest one", x, 0, true, 10000000);
        deck("the lowest one", x, 0, false, 0, 90000000);
        deck("the lowest one in force", x, 1, true, 20000000);
        deck("the lowest one in force", x, 1, false, 0, 0, 80000000);
        deck("the one told later", x, 3, false, 0, 0, 0, 0, 60000000);
        x.oil(0, 0, 1, 1);
        deck("the lowest one held", x, 1, false, 0, 90000000);
    }

    private static void interestAtItsGreatest() {
        Divisionorder x = new Divisionorder();
        for (int tract = 0; tract < 8; tract++) {
            x.tract(1000, 0);
        }
        x.unit(255);
        deck("all of the greatest deck", x, 0, false, 100000000);
        x.deed(7, 0, 9, 1, 0);
        Check.same("15: the least part", x.interest(0, 0, 9, false), 1250);
        Check.same("15: all but the least part", x.interest(0, 0, 0, false), 99998750);
        Divisionorder y = new Divisionorder();
        y.tract(1000, 0);
        y.tract(1, 0);
        y.unit(3);
        y.deed(1, 0, 1, 1, 0);
        // 100000000 / 10010000 is 9.99.
        deck("a small part", y, 0, false, 99999990, 10);
    }

    private static void interestWrong() {
        for (boolean isRoyalty : new boolean[] {true, false}) {
            Check.refuses("15: unit 2", Check.INDEX, Scenes::busy, y -> y.interest(2, 2, 0, isRoyalty));
            Check.refuses("15: unit 3", Check.INDEX, Scenes::fullOfUnits, y -> y.interest(3, 2, 0, isRoyalty));
            Check.refuses("15: unit -1", Check.INDEX, Scenes::busy, y -> y.interest(-1, 2, 0, isRoyalty));
            Check.refuses("15: month 3", Check.INDEX, Scenes::busy, y -> y.interest(0, 3, 0, isRoyalty));
            Check.refuses("15: month -1", Check.INDEX, Scenes::busy, y -> y.interest(0, -1, 0, isRoyalty));
            Check.refuses("15: ahead of the unit", Check.INDEX, Scenes::busy, y -> y.interest(1, 0, 0, isRoyalty));
            Check.refuses("15: owner 10", Check.INDEX, Scenes::busy, y -> y.interest(0, 2, 10, isRoyalty));
            Check.refuses("15: owner -1", Check.INDEX, Scenes::busy, y -> y.interest(0, 2, -1, isRoyalty));
        }
    }

    private static void revenue() {
        Divisionorder x = Scenes.one();
        x.tract(1, 1);
        x.unit(2);
        x.well(0);
        x.well(1);
        x.oil(0, 0, 10, 100);
        x.oil(1, 0, 3, 33);
        x.oil(2, 0, 500, 9);
        Check.same("16: of its wells", x.revenue(0, 0), 1099);
        x.tax(7, 0);
        Check.same("16: less the tax, which is rounded down", x.revenue(0, 0), 1023);
        x.cost(0, 0, 500);
        Check.same("16: costs are no matter", x.revenue(0, 0), 1023);
        Divisionorder y = Scenes.one();
        for (int well = 1; well < 6; well++) {
            y.well(0);
        }
        for (int well = 0; well < 6; well++) {
            y.oil(well, 0, 1000, 10000);
        }
        Check.same("16: the greatest one", y.revenue(0, 0), 60000000);
        y.tax(50, 0);
        Check.same("16: the greatest one, taxed", y.revenue(0, 0), 30000000);
    }

    private static void dueOfCosts() {
        Divisionorder x = Scenes.three();
        x.cost(0, 0, 102);
        // 30.6, 51 and 20.4
        dues("costs alone", x, 0, -31, -51, -20);
        x.oil(0, 0, 1, 17);
        // 5.1, 8.5 and 3.4
        dues("costs and revenue are parted by themselves", x, 0, -26, -42, -17);
        x.pass(1);
        dues("a month without money", x, 1);
    }

    private static void dueOfOneCarried() {
        Divisionorder x = Scenes.three();
        x.consent(0, 2, false);
        x.cost(0, 0, 101);
        // By all 30.3, 50.5 and 20.2; by the first two 37.875 and 63.125.
        dues("costs are carried", x, 0, -38, -63, 0);
        Check.same("18: three times 20", x.balance(0, 0, 2), 60);
        Check.same("18: not carried", x.balance(0, 0, 0), 0);
        x.oil(0, 0, 10, 15);
        // 45, 75 and 30, all of which is withheld: 11.25 and 18.75.
        dues("all is withheld", x, 0, 18, 31, 0);
        Check.same("18: the rest", x.balance(0, 0, 2), 30);
        x.pass(1);
        x.consent(0, 2, true);
        x.oil(0, 1, 10, 20);
        x.cost(0, 1, 10);
        // 60, 100 and 40, of which 30 and three times 2 are withheld: 13.5 and 22.5; costs by the first two 3.75, 6.25.
        dues("as much as the balance", x, 1, 70, 116, 4);
        Check.same("18: paid out", x.balance(0, 1, 2), 0);
        Check.same("18: as month 0 ends", x.balance(0, 0, 2), 30);
        x.pass(1);
        x.cost(0, 2, 10);
        dues("not carried any more", x, 2, -3, -5, -2);
        Check.same("18: still 0", x.balance(0, 2, 2), 0);
        x.penalty(100);
        // Now 20 are paid out in month 0 already: 11 or so less are withheld, and month 1 carries none.
        Check.same("18: paid out in month 0", x.balance(0, 0, 2), 0);
        dues("a lower penalty", x, 0, 45 + 8 - 38, 75 + 12 - 63, 10);
        dues("a lower penalty, month 1", x, 1, 57, 95, 38);
    }

    private static void dueOfAllSo() {
        Divisionorder x = Scenes.one();
        x.consent(0, 0, false);
        x.cost(0, 0, 100);
        dues("one alone does not consent", x, 0, -100);
        Check.same("18: none is carried", x.balance(0, 0, 0), 0);
        x.deed(0, 0, 1, 4000, 0);
        x.deed(0, 1, 2, 4000, 0);
        dues("one of two does not", x, 0, 0, 0, -100);
        Check.same("18: one of two", x.balance(0, 0, 0), 180);
        x.consent(0, 1, true);
        x.pass(1);
        x.consent(0, 2, false);
        x.consent(0, 0, true);
        x.cost(0, 1, 50);
        x.oil(0, 1, 10, 10);
        // Owner 0 has a balance, owner 2 does not consent: all are so, and owner 1, who does, has nothing.
        dues("one does not, and one has a balance", x, 1, 30, 0, 20);
        Check.same("18: it stays", x.balance(0, 1, 0), 180);
        Check.same("18: not carried", x.balance(0, 1, 2), 0);
        x.deed(0, 2, 1, 1, 1);
        dues("now one is not so", x, 1, 0, 50, 0);
        Check.same("18: 180 and three times 30 less 60", x.balance(0, 1, 0), 210);
        Check.same("18: three times 20 less 40", x.balance(0, 1, 2), 20);
    }

    private static void dueOfRoyalties() {
        Divisionorder x = Scenes.three();
        x.lease(0, 0, 1, 250, 9);
        x.lease(0, 2, 0, 100, 9);
        x.consent(0, 0, false);
        x.consent(0, 2, false);
        x.cost(0, 0, 1000);
        x.oil(0, 0, 10, 100);
        // Royalties 750 and 200, working interests 1800 of owner 0 and 7250 of owner 1; of the costs 198.9 and 801.1.
        dues("royalties are not withheld", x, 0, 75, 725 + 180 - 1000, 20);
        Check.same("18: three times 199 less 180", x.balance(0, 0, 0), 417);
        Check.same("18: a royalty is not carried", x.balance(0, 0, 2), 0);
    }

    private static void dueOfLateDeed() {
        Divisionorder x = Scenes.three();
        x.consent(0, 2, false);
        x.cost(0, 0, 1000);
        x.pass(2);
        x.oil(0, 2, 10, 100);
        Check.same("18: ahead of the deed", x.balance(0, 2, 2), 400);
        dues("ahead of the deed", x, 2, 375, 625);
        x.deed(0, 1, 2, 5000, 0);
        Check.same("18: behind the deed", x.balance(0, 0, 2), 2100);
        dues("behind the deed, month 0", x, 0, -1000);
        Check.same("18: less of a greater share", x.balance(0, 2, 2), 1400);
        dues("behind the deed", x, 2, 1000);
        x.deed(0, 2, 1, 7000, 1);
        Check.same("18: a deed between", x.balance(0, 1, 2), 2100);
        dues("a deed between, month 0", x, 0, -1000);
        dues("a deed between", x, 2, 300, 700);
        Check.same("18: without an interest it stays", x.balance(0, 2, 2), 2100);
    }

    private static void dueOfLateOil() {
        Divisionorder x = Scenes.three();
        x.lease(0, 1, 4, 100, 1);
        x.pass(2);
        x.oil(0, 2, 10, 10);
        x.oil(0, 1, 1, 0);
        dues("the lease has ended", x, 2, 30, 50, 20);
        x.oil(0, 0, 1, 0);
        dues("the lease is held", x, 2, 30, 5, 20, 0, 45);
        x.oil(0, 1, 0, 0);
        dues("the lease has ended in month 1", x, 2, 30, 50, 20);
    }

    private static void dueOfLateCostsAndVotes() {
        Divisionorder x = Scenes.three();
        x.oil(0, 0, 10, 10);
        x.pass(2);
        dues("ahead of all", x, 0, 30, 50, 20);
        x.lease(0, 0, 3, 100, 1);
        x.oil(0, 2, 10, 10);
        dues("a lease", x, 2, 3, 50, 20, 27);
        x.lease(0, 1, 4, 100, 1);
        dues("a lease told behind the oil", x, 2, 3, 5, 20, 27, 45);
        x.consent(0, 2, false);
        x.cost(0, 2, 10);
        // Of the costs 2 come to owner 2: three times that are withheld, and parted 2.25 and 3.75.
        dues("one does not consent", x, 2, 3, 5, 20 - 6, 27 + 2 - 4, 45 + 4 - 6);
        x.consent(0, 2, true);
        dues("it does again", x, 2, 3, 5, 18, 24, 40);
        x.oil(0, 0, 20, 10);
        dues("oil told anew", x, 0, 60, 100, 40);
        x.cost(0, 0, 10);
        dues("costs told late", x, 0, 57, 95, 38);
        x.tax(50, 0);
        dues("a tax told late", x, 0, 27, 45, 18);
    }

    private static void dueOfAllSoButNotOwner0() {
        Divisionorder x = Scenes.three();
        x.lease(0, 0, 1, 100, 5);
        x.consent(0, 0, false);
        x.consent(0, 1, false);
        x.consent(0, 2, false);
        x.cost(0, 0, 100);
        Check.same("19: not asked for ahead", x.agrees(0, 0), true);
        // The working interests are 7700 and 2000; owner 0 has a royalty alone. Of 100 there are 79.4 and 20.6.
        dues("none is carried, whatever an owner without working interest says", x, 0, 0, -79, -21);
        x.consent(0, 0, true);
        dues("nor if it consents", x, 0, 0, -79, -21);
        x.consent(0, 1, true);
        dues("but if one of those consents", x, 0, 0, -100);
        Check.same("18: three times 21", x.balance(0, 0, 2), 63);
    }

    private static void dueInTheLastMonth() {
        Divisionorder x = Scenes.three();
        x.lease(0, 1, 4, 100, 36);
        for (int times = 0; times < 5; times++) {
            x.pass(12);
        }
        x.consent(0, 2, false);
        x.oil(0, 60, 10, 10);
        x.cost(0, 60, 10);
        dues("month 60", x, 60, 30 + 2 - 4, 50 + 4 - 6, 20 - 6);
        Check.same("18: in month 60", x.balance(0, 60, 2), 0);
        Check.same("19: in month 60", x.agrees(0, 60), true);
        Check.same("12: in month 60", x.tax(10, 60), 0);
        Check.same("16: in month 60", x.revenue(0, 60), 90);
        for (int month = 35; month < 60; month++) {
            x.oil(0, month, 1, 0);
        }
        Check.same("7: held to the last month", x.isHeld(0, 60), true);
        Check.same("5: in month 60", x.title(0, 1, 60), 5000);
        Check.same("15: in month 60", x.interest(0, 60, 1, true), 5000000);
        x.oil(0, 47, 0, 0);
        Check.same("7: not held any more", x.isHeld(0, 60), false);
        Check.same("4: in month 60", x.deed(0, 1, 0, 5000, 60), 0);
    }

    private static void balanceWithoutInterest() {
        Divisionorder x = Scenes.three();
        x.consent(0, 2, false);
        x.cost(0, 0, 100);
        x.pass(1);
        x.consent(0, 2, true);
        x.deed(0, 2, 1, 2000, 1);
        x.oil(0, 1, 1, 100);
        Check.same("18: without an interest", x.balance(0, 1, 2), 60);
        dues("without an interest", x, 1, 30, 70);
        x.pass(1);
        x.deed(0, 1, 2, 2000, 2);
        x.oil(0, 2, 1, 100);
        Check.same("18: with one again", x.balance(0, 2, 2), 40);
        dues("with an interest again", x, 2, 38, 62, 0);
        Check.same("18: of an owner without anything", x.balance(0, 2, 9), 0);
    }

    private static void balanceAtItsGreatest() {
        Divisionorder x = Scenes.one();
        x.deed(0, 0, 1, 9999, 0);
        x.consent(0, 1, false);
        x.penalty(500);
        for (int well = 1; well < 6; well++) {
            x.well(0);
        }
        long costs = 0;
        for (int call = 0; call < 470; call++) {
            if (call > 0 && call % 60 == 0) {
                x.pass(1);
            }
            x.cost(call % 6, call / 60, 1000000);
            costs += 1000000;
        }
        Check.same("18: above an int", x.balance(0, 7, 1), costs / 10000 * 9999 * 5);
        Check.same("17: all costs of a month", x.due(0, 6, 0), -60000000);
        Check.same("23: all costs", x.owed(0), -costs);
    }

    private static void agrees() {
        Divisionorder x = Scenes.busy();
        for (int month = 0; month <= 2; month++) {
            Check.same("19: unit 0", x.agrees(0, month), true);
            int all = 0;
            for (int owner = 0; owner < 10; owner++) {
                all += x.due(0, month, owner);
            }
            int[] costs = {5001, 0, 777};
            Check.same("19: the sum", all, x.revenue(0, month) - costs[month]);
        }
        Check.same("19: unit 1", x.agrees(1, 1), true);
        Check.same("19: unit 1", x.agrees(1, 2), true);
        Check.same("19: nothing", Scenes.one().agrees(0, 0), true);
    }

    private static void wrong() {
        int[][] units = {{2, 2}, {3, 2}, {-1, 2}, {0, 3}, {0, -1}, {1, 0}, {1, -1}, {Integer.MIN_VALUE, 0},
            {Integer.MAX_VALUE, 0}, {0, Integer.MIN_VALUE}, {0, Integer.MAX_VALUE}};
        for (int[] unit : units) {
            String of = unit[0] + ", " + unit[1];
            Check.refuses("16: revenue(" + of + ")", Check.INDEX, Scenes::busy, y -> y.revenue(unit[0], unit[1]));
            Check.refuses("17: due(" + of + ")", Check.INDEX, Scenes::busy, y -> y.due(unit[0], unit[1], 0));
            Check.refuses("18: balance(" + of + ")", Check.INDEX, Scenes::busy, y -> y.balance(unit[0], unit[1], 0));
            Check.refuses("19: agrees(" + of + ")", Check.INDEX, Scenes::busy, y -> y.agrees(unit[0], unit[1]));
        }
        Check.same("16: unit 3 of 3", Check.answer(Scenes.fullOfUnits(), y -> y.revenue(3, 2)), Check.INDEX);
        for (int owner : new int[] {10, -1, Integer.MIN_VALUE, Integer.MAX_VALUE}) {
            Check.refuses("17: due of " + owner, Check.INDEX, Scenes::busy, y -> y.due(0, 0, owner));
            Check.refuses("18: balance of " + owner, Check.INDEX, Scenes::busy, y -> y.balance(0, 0, owner));
        }
    }
}
