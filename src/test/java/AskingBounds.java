/** Promises 15 to 24: each sentence at its bounds. */
final class AskingBounds {
    private final Document doc;

    AskingBounds(Document doc) {
        this.doc = doc;
    }

    /** A question about a unit and a month, or about an owner too. */
    private interface Asked {
        Object of(Divisionorder x, int unit, int month, int owner);
    }

    void all() {
        interest();
        revenue();
        due();
        balance();
        balanceOfTheMost();
        agrees();
        suspend();
        least();
        payDay();
        owed();
        paid();
    }

    /** Three units of one tract each, of month 0, 1 and 60; in each the month of now has a revenue and costs. */
    private static Divisionorder threeUnits() {
        Divisionorder x = new Divisionorder();
        x.tract(10, 0);
        x.tract(10, 9);
        x.tract(10, 9);
        x.unit(1);
        x.pass(1);
        x.unit(2);
        x.pass(11);
        for (int times = 0; times < 4; times++) {
            x.pass(12);
        }
        x.unit(4);
        for (int well = 0; well < 3; well++) {
            x.well(well);
            x.oil(well, 60, 1, 100 * (well + 1));
            x.cost(well, 60, 1);
        }
        return x;
    }

    private void answersInUnits(Asked asked, int owner, Object... dues) {
        for (int u = 0; u < 3; u++) {
            int unit = u;
            Check.answers("unit " + u, dues[u], AskingBounds::threeUnits, y -> asked.of(y, unit, 60, owner));
        }
    }

    /** Nothing is known of the first months, but they are there. */
    private void answersInMonths(Asked asked, Object due) {
        Check.answers("the first month of unit 0", due, AskingBounds::threeUnits, y -> asked.of(y, 0, 0, 0));
        Check.answers("the first month of unit 1", due, AskingBounds::threeUnits, y -> asked.of(y, 1, 1, 9));
        Check.answers("the month ahead of unit 1", Check.INDEX, AskingBounds::threeUnits, y -> asked.of(y, 1, 0, 9));
        Check.answers("the month ahead of unit 2", Check.INDEX, AskingBounds::threeUnits, y -> asked.of(y, 2, 59, 9));
        Check.answers("the month ahead of now", due, AskingBounds::threeUnits, y -> asked.of(y, 1, 59, 9));
        Check.answers("the month behind now", Check.INDEX, AskingBounds::threeUnits, y -> asked.of(y, 1, 61, 9));
    }

    private void refusesUnitsAndMonths(Asked asked) {
        Check.refusesOutside(0, 1, Check.INDEX, Scenes::busy, (y, n) -> asked.of(y, n, 2, 0));
        Check.refusesOutside(0, 2, Check.INDEX, Scenes::fullOfUnits, (y, n) -> asked.of(y, n, 2, 0));
        Check.refusesOutside(0, 2, Check.INDEX, Scenes::busy, (y, n) -> asked.of(y, 0, n, 0));
        Check.refusesOutside(1, 2, Check.INDEX, Scenes::busy, (y, n) -> asked.of(y, 1, n, 0));
        Check.refusesOutside(2, 60, Check.INDEX, () -> {
            Divisionorder x = Scenes.fullOfUnits();
            for (int month = 2; month < 58; month += 8) {
                x.pass(8);
            }
            x.pass(2);
            return x;
        }, (y, n) -> asked.of(y, 2, n, 0));
    }

    private void refusesOwners(Asked asked) {
        Check.refusesOutside(0, 9, Check.INDEX, Scenes::busy, (y, n) -> asked.of(y, 0, 2, n));
    }

    private void interest() {
        Asked working = (y, unit, month, owner) -> y.interest(unit, month, owner, false);
        Asked royalty = (y, unit, month, owner) -> y.interest(unit, month, owner, true);
        doc.test("15", "Returns an interest of a deck, in parts of 100000000", () -> {
            Divisionorder x = new Divisionorder();
            x.tract(1, 0);
            x.tract(1, 1);
            x.tract(1, 2);
            x.unit(7);
            Rows.workings(x, 0, 0, 33333334, 33333333, 33333333);
            x.deed(2, 2, 0, 10000, 0);
            Rows.workings(x, 0, 0, 66666667, 33333333);
            x.deed(1, 1, 0, 10000, 0);
            Rows.workings(x, 0, 0, 100000000);
            Rows.royalties(x, 0, 0);
        });
        doc.test("15", "@param unit its number", () -> {
            answersInUnits(working, 9, 0, 100000000, 100000000);
            answersInUnits(working, 0, 100000000, 0, 0);
        });
        doc.test("15", "@param month from that of the unit to now", () -> answersInMonths(working, 100000000));
        doc.test("15", "@param owner 0 to 9", () -> {
            Check.answers("owner 0", 100000000, AskingBounds::threeUnits, y -> y.interest(0, 60, 0, false));
            Check.answers("owner 9", 100000000, AskingBounds::threeUnits, y -> y.interest(1, 60, 9, false));
        });
        doc.test("15", "@param isRoyalty whether the royalty", () -> {
            Divisionorder x = Scenes.one();
            x.deed(0, 0, 9, 5000, 0);
            x.lease(0, 0, 9, 500, 1);
            x.lease(0, 9, 0, 100, 1);
            Rows.royalties(x, 0, 0, 25000000, 0, 0, 0, 0, 0, 0, 0, 0, 5000000);
            Rows.workings(x, 0, 0, 45000000, 0, 0, 0, 0, 0, 0, 0, 0, 25000000);
        });
        doc.test("15", "@return the parts", () -> {
            Divisionorder x = new Divisionorder();
            x.tract(1000, 0);
            x.tract(1, 1);
            x.deed(1, 1, 2, 1, 0);
            x.unit(3);
            // One part of 10010000 is 9.99, 9999 are 99890.1, and 10000000 are 99900099.9.
            Rows.workings(x, 0, 0, 99900100, 99890, 10);
            x.lease(1, 2, 0, 1, 1);
            Rows.royalties(x, 0, 0);
            Rows.workings(x, 0, 0, 99900110, 99890);
        });
        doc.test("15", "@throws IndexOutOfBoundsException", () -> {
            refusesUnitsAndMonths(working);
            refusesUnitsAndMonths(royalty);
            refusesOwners(working);
            refusesOwners(royalty);
        });
    }

    private void revenue() {
        Asked asked = (y, unit, month, owner) -> y.revenue(unit, month);
        doc.test("16", "Returns the revenue of a unit.", () -> {
            Divisionorder x = Scenes.one();
            Check.same("nothing", x.revenue(0, 0), 0);
            x.cost(0, 0, 1000);
            Check.same("costs are of no matter", x.revenue(0, 0), 0);
            x.oil(0, 0, 1, 1);
            Check.same("one cent", x.revenue(0, 0), 1);
            x.tax(50, 0);
            Check.same("one cent, as half of it is 0", x.revenue(0, 0), 1);
        });
        doc.test("16", "@param unit its number", () -> answersInUnits(asked, 0, 100, 200, 300));
        doc.test("16", "@param month from that of the unit to now", () -> answersInMonths(asked, 0));
        doc.test("16", "@return the cents", () -> {
            Divisionorder x = Scenes.one();
            for (int well = 1; well < 6; well++) {
                x.well(0);
            }
            for (int well = 0; well < 6; well++) {
                x.oil(well, 0, 1000, 10000);
            }
            Check.same("the most", x.revenue(0, 0), 60000000);
            x.tax(50, 0);
            Check.same("the most taxed", x.revenue(0, 0), 30000000);
            Check.same("the most taxed is due", x.due(0, 0, 0), 30000000);
        });
        doc.test("16", "@throws IndexOutOfBoundsException", () -> refusesUnitsAndMonths(asked));
    }

    private void due() {
        doc.test("17", "Returns a due.", () -> {
            Divisionorder x = Scenes.three();
            x.oil(0, 0, 10, 10);
            x.cost(0, 0, 10);
            Rows.dues(x, 0, 0, 27, 45, 18);
            x.payDay();
            Rows.dues(x, 0, 0, 27, 45, 18);
        });
        doc.test("17", "@param unit its number", () -> {
            answersInUnits(Divisionorder::due, 0, 99, 0, 0);
            answersInUnits(Divisionorder::due, 9, 0, 199, 299);
        });
        doc.test("17", "@param month from that of the unit to now", () -> answersInMonths(Divisionorder::due, 0));
        doc.test("17", "@param owner 0 to 9", () -> {
            Divisionorder x = Scenes.one();
            x.deed(0, 0, 9, 2500, 0);
            x.oil(0, 0, 1, 100);
            Rows.dues(x, 0, 0, 75, 0, 0, 0, 0, 0, 0, 0, 0, 25);
        });
        doc.test("17", "@return the cents", () -> {
            Divisionorder x = Scenes.one();
            for (int well = 1; well < 6; well++) {
                x.well(0);
            }
            for (int call = 0; call < 60; call++) {
                x.cost(call % 6, 0, 1000000);
            }
            Check.same("the least", x.due(0, 0, 0), -60000000);
            for (int well = 0; well < 6; well++) {
                x.oil(well, 0, 1000, 10000);
            }
            Check.same("none", x.due(0, 0, 0), 0);
            x.oil(0, 0, 1000, 9999);
            Check.same("below 0", x.due(0, 0, 0), -1000);
        });
        doc.test("17", "@throws IndexOutOfBoundsException", () -> {
            refusesUnitsAndMonths(Divisionorder::due);
            refusesOwners(Divisionorder::due);
        });
    }

    private void balance() {
        doc.test("18", "Returns the balance of a working interest, as a month ends.", () -> {
            Divisionorder x = Scenes.three();
            x.consent(0, 2, false);
            x.cost(0, 0, 100);
            x.oil(0, 0, 1, 50);
            // 60 are added and 10 withheld in the month.
            Rows.balances(x, 0, 0, 0, 0, 50);
            x.pass(1);
            Rows.balances(x, 0, 1, 0, 0, 50);
            x.oil(0, 1, 1, 250);
            Rows.balances(x, 0, 0, 0, 0, 50);
            Rows.balances(x, 0, 1);
        });
        doc.test("18", "@param unit its number", () -> {
            Divisionorder x = threeUnits();
            x.deed(0, 0, 1, 5000, 0);
            x.deed(2, 9, 8, 5000, 60);
            x.consent(0, 0, false);
            x.consent(2, 9, false);
            for (int well = 0; well < 3; well++) {
                x.cost(well, 60, 1000);
            }
            Check.same("unit 0", x.balance(0, 60, 0), 501 * 3 - 50);
            Check.same("unit 1", x.balance(1, 60, 9), 0);
            Check.same("unit 2", x.balance(2, 60, 9), 500 * 3 - 150);
        });
        doc.test("18", "@param month from that of the unit to now", () -> answersInMonths(Divisionorder::balance, 0));
        doc.test("18", "@param owner 0 to 9", () -> {
            Divisionorder x = Scenes.one();
            x.deed(0, 0, 9, 2500, 0);
            x.cost(0, 0, 100);
            x.consent(0, 9, false);
            Rows.balances(x, 0, 0, 0, 0, 0, 0, 0, 0, 0, 0, 0, 75);
            x.consent(0, 9, true);
            x.consent(0, 0, false);
            Rows.balances(x, 0, 0, 225);
        });
        doc.test("18", "@throws IndexOutOfBoundsException", () -> {
            refusesUnitsAndMonths(Divisionorder::balance);
            refusesOwners(Divisionorder::balance);
        });
    }

    private void balanceOfTheMost() {
        doc.test("18", "@return the cents", () -> {
            Divisionorder x = Scenes.one();
            x.deed(0, 0, 1, 9999, 0);
            x.consent(0, 1, false);
            x.penalty(500);
            for (int well = 1; well < 6; well++) {
                x.well(0);
            }
            for (int call = 0; call < 480; call++) {
                if (call > 0 && call % 60 == 0) {
                    x.pass(1);
                }
                x.cost(call % 6, call / 60, 1000000);
            }
            Check.same("above an int", x.balance(0, 7, 1), 480000000L / 10000 * 9999 * 5);
            x.oil(0, 7, 1000, 10000);
            Check.same("less what is withheld", x.balance(0, 7, 1), 2399760000L - 9999000);
            x.consent(0, 1, true);
            Check.same("carried for it", x.balance(0, 7, 1), 2399760000L - 9999000);
            x.penalty(100);
            Check.same("by 100", x.balance(0, 7, 1), 479952000L - 9999000);
        });
    }

    private void agrees() {
        Asked asked = (y, unit, month, owner) -> y.agrees(unit, month);
        doc.test("19", "Tells whether all dues of a unit and a month", () -> {
            Divisionorder x = Scenes.busy();
            int[][] unitsAndMonths = {{0, 0, 5001}, {0, 1, 0}, {0, 2, 777}, {1, 1, 1234}, {1, 2, 0}};
            for (int[] one : unitsAndMonths) {
                int all = 0;
                for (int owner = 0; owner < 10; owner++) {
                    all += x.due(one[0], one[1], owner);
                }
                Check.same("all dues", all, x.revenue(one[0], one[1]) - one[2]);
                Check.same("agrees", x.agrees(one[0], one[1]), true);
            }
        });
        doc.test("19", "@param unit its number", () -> answersInUnits(asked, 0, true, true, true));
        doc.test("19", "@param month from that of the unit to now", () -> answersInMonths(asked, true));
        doc.test("19", "@return whether they are", () -> {
            Divisionorder x = Scenes.three();
            Check.same("nothing", x.agrees(0, 0), true);
            x.oil(0, 0, 1, 1);
            Check.same("one cent", x.agrees(0, 0), true);
            x.cost(0, 0, 2);
            Check.same("below 0", x.agrees(0, 0), true);
            x.consent(0, 1, false);
            Check.same("carried", x.agrees(0, 0), true);
        });
        doc.test("19", "@throws IndexOutOfBoundsException", () -> refusesUnitsAndMonths(asked));
    }

    private void suspend() {
        doc.test("20", "Lets an owner be in suspense, or not.", () -> {
            Divisionorder x = Scenes.one();
            x.oil(0, 0, 1, 100);
            x.suspend(0, true);
            x.least(1);
            Check.same("in suspense", x.payDay(), 0);
            Rows.paid(x);
            Check.same("is owed it", x.owed(0), 100);
            x.pass(12);
            Check.same("still", x.payDay(), 0);
            x.suspend(0, false);
            Check.same("not any more", x.payDay(), 100);
        });
        doc.test("20", "@param owner 0 to 9", () -> {
            Divisionorder x = Scenes.one();
            x.suspend(0, true);
            x.suspend(9, true);
            for (int owner = 0; owner < 10; owner++) {
                Check.same("owner " + owner, x.suspend(owner, false), owner == 0 || owner == 9);
            }
        });
        doc.test("20", "@param is whether", () -> {
            Divisionorder x = Scenes.one();
            x.oil(0, 0, 1, 100);
            x.suspend(0, true);
            x.suspend(0, true);
            Check.same("twice", x.payDay(), 0);
            x.suspend(0, false);
            x.suspend(0, false);
            Check.same("not twice", x.payDay(), 100);
        });
        doc.test("20", "@return whether it was", () -> {
            Divisionorder x = new Divisionorder();
            Check.same("at first", x.suspend(4, false), false);
            Check.same("still not", x.suspend(4, true), false);
            Check.same("it was", x.suspend(4, true), true);
            Check.same("still", x.suspend(4, false), true);
        });
        doc.test("20", "@throws IndexOutOfBoundsException", () -> {
            Check.refusesOutside(0, 9, Check.INDEX, Scenes::busy, (y, n) -> y.suspend(n, true));
            Check.refusesOutside(0, 9, Check.INDEX, Scenes::busy, (y, n) -> y.suspend(n, false));
        });
    }

    private void least() {
        doc.test("21", "Sets the least cheque.", () -> {
            Divisionorder x = Scenes.one();
            x.oil(0, 0, 1, 500);
            x.least(501);
            Check.same("one less", x.payDay(), 0);
            x.least(500);
            Check.same("just it", x.payDay(), 500);
        });
        doc.test("21", "@param cents 1 to 100000", () -> {
            Divisionorder x = Scenes.one();
            x.least(1);
            Check.same("0 is no cheque", x.payDay(), 0);
            x.oil(0, 0, 1, 1);
            Check.same("1", x.payDay(), 1);
            x.least(100000);
            x.oil(0, 0, 10, 10000);
            Check.same("99999", x.payDay(), 0);
            x.cost(0, 0, 1);
            x.well(0);
            x.oil(1, 0, 1, 2);
            Check.same("100000", x.payDay(), 100000);
        });
        doc.test("21", "@return the one before", () -> {
            Divisionorder x = new Divisionorder();
            Check.same("at first", x.least(1), 100);
            Check.same("1", x.least(100000), 1);
            Check.same("100000", x.least(100000), 100000);
        });
        doc.test("21", "@throws IllegalArgumentException", () -> {
            Check.refusesOutside(1, 100000, Check.ARGUMENT, Scenes::busy, Divisionorder::least);
        });
    }

    private void payDay() {
        doc.test("22", "Holds a pay day.", () -> {
            Divisionorder x = Scenes.three();
            x.oil(0, 0, 10, 100);
            x.payDay();
            Rows.paid(x, 300, 500, 200);
            Rows.owed(x);
            x.payDay();
            Rows.paid(x, 300, 500, 200);
        });
        doc.test("22", "@return how much is paid", () -> {
            Divisionorder x = new Divisionorder();
            Check.same("nobody", x.payDay(), 0);
            Divisionorder y = mostOil();
            Check.same("above an int", y.payDay(), 3000000000L);
            Check.same("nothing more", y.payDay(), 0);
            Divisionorder z = Scenes.three();
            z.cost(0, 0, 1000);
            Check.same("nobody is owed", z.payDay(), 0);
            z.pass(1);
            z.deed(0, 1, 9, 5000, 1);
            z.oil(0, 1, 1, 2000);
            // Owner 1 still owes 500, owner 9 is owed 1000.
            Check.same("one who owes does not count", z.payDay(), 300 + 200 + 1000);
            Rows.owed(z, 0, -500);
        });
    }

    /** Owner 9 is owed 3000000000: 50 months of six wells with the most that they can give. */
    private static Divisionorder mostOil() {
        Divisionorder x = new Divisionorder();
        x.tract(1, 9);
        x.unit(1);
        for (int well = 0; well < 6; well++) {
            x.well(0);
        }
        for (int month = 0; month < 50; month++) {
            for (int well = 0; well < 6; well++) {
                x.oil(well, month, 1000, 10000);
            }
            x.pass(1);
        }
        return x;
    }

    private void owed() {
        doc.test("23", "Returns what an owner is owed.", () -> {
            Divisionorder x = Scenes.one();
            Rows.owed(x);
            x.oil(0, 0, 1, 99);
            Rows.owed(x, 99);
            x.payDay();
            Rows.owed(x, 99);
            x.oil(0, 0, 1, 100);
            x.payDay();
            Rows.owed(x);
        });
        doc.test("23", "@param owner 0 to 9", () -> {
            Divisionorder x = Scenes.one();
            x.deed(0, 0, 9, 5000, 0);
            x.oil(0, 0, 1, 10);
            Rows.owed(x, 5, 0, 0, 0, 0, 0, 0, 0, 0, 5);
        });
        doc.test("23", "@return the cents, below 0 if the owner owes them", () -> {
            Divisionorder x = mostOil();
            Check.same("above an int", x.owed(9), 3000000000L);
            x.payDay();
            Check.same("0", x.owed(9), 0);
            x.deed(0, 9, 0, 10000, 0);
            Check.same("below an int", x.owed(9), -3000000000L);
            Check.same("the other one", x.owed(0), 3000000000L);
            x.payDay();
            Check.same("0", x.owed(0), 0);
            Check.same("owes it still", x.owed(9), -3000000000L);
        });
        doc.test("23", "@throws IndexOutOfBoundsException", () -> {
            Check.refusesOutside(0, 9, Check.INDEX, Scenes::busy, Divisionorder::owed);
        });
    }

    private void paid() {
        doc.test("24", "Returns what an owner was paid.", () -> {
            Divisionorder x = Scenes.three();
            Rows.paid(x);
            x.oil(0, 0, 10, 100);
            Rows.paid(x);
            x.payDay();
            Rows.paid(x, 300, 500, 200);
            x.oil(0, 0, 0, 0);
            Rows.paid(x, 300, 500, 200);
            x.oil(0, 0, 20, 100);
            x.payDay();
            Rows.paid(x, 600, 1000, 400);
        });
        doc.test("24", "@param owner 0 to 9", () -> {
            Divisionorder x = Scenes.one();
            x.deed(0, 0, 9, 5000, 0);
            x.oil(0, 0, 2, 100);
            x.payDay();
            Rows.paid(x, 100, 0, 0, 0, 0, 0, 0, 0, 0, 100);
        });
        doc.test("24", "@return the cents", () -> {
            Divisionorder x = mostOil();
            Check.same("nothing", x.paid(9), 0);
            x.payDay();
            Check.same("above an int", x.paid(9), 3000000000L);
        });
        doc.test("24", "@throws IndexOutOfBoundsException", () -> {
            Check.refusesOutside(0, 9, Check.INDEX, Scenes::busy, Divisionorder::paid);
        });
    }
}
