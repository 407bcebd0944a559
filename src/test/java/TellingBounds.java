/** Promises 1 to 14: each sentence at its bounds. */
final class TellingBounds {
    private final Document doc;

    TellingBounds(Document doc) {
        this.doc = doc;
    }

    void all() {
        newObject();
        pass();
        passWrong();
        tract();
        tractWrong();
        deed();
        deedWrong();
        title();
        lease();
        leaseWrong();
        isHeld();
        unit();
        unitWrong();
        well();
        oil();
        oilWrong();
        cost();
        costWrong();
        tax();
        consent();
        penalty();
    }

    /** The last tract, unit, well and lease that there can be, and the last owner and month. */
    private static Divisionorder full() {
        Divisionorder x = new Divisionorder();
        for (int tract = 0; tract < 8; tract++) {
            x.tract(10, tract == 7 ? 9 : 0);
        }
        for (int times = 0; times < 5; times++) {
            x.pass(12);
        }
        x.unit(1);
        x.unit(2);
        x.unit(128);
        for (int well = 0; well < 6; well++) {
            x.well(well / 2);
        }
        for (int lease = 0; lease < 16; lease++) {
            x.lease(lease == 15 ? 7 : 2, 9, 0, 100, 36);
        }
        return x;
    }

    private void newObject() {
        doc.test("1", "No tracts, units and wells; the month 0.", () -> {
            Check.Making none = Divisionorder::new;
            Check.refuses("title", Check.INDEX, none, y -> y.title(0, 0, 0));
            Check.refuses("deed", Check.INDEX, none, y -> y.deed(0, 0, 1, 1, 0));
            Check.refuses("lease", Check.INDEX, none, y -> y.lease(0, 0, 1, 0, 1));
            Check.refuses("isHeld", Check.INDEX, none, y -> y.isHeld(0, 0));
            Check.refuses("unit", Check.ARGUMENT, none, y -> y.unit(1));
            Check.refuses("unit of none", Check.ARGUMENT, none, y -> y.unit(0));
            Check.refuses("well", Check.INDEX, none, y -> y.well(0));
            Check.refuses("oil", Check.INDEX, none, y -> y.oil(0, 0, 0, 0));
            Check.refuses("cost", Check.INDEX, none, y -> y.cost(0, 0, 1));
            Check.refuses("consent", Check.INDEX, none, y -> y.consent(0, 0, true));
            Check.refuses("interest", Check.INDEX, none, y -> y.interest(0, 0, 0, false));
            Check.refuses("revenue", Check.INDEX, none, y -> y.revenue(0, 0));
            Check.refuses("due", Check.INDEX, none, y -> y.due(0, 0, 0));
            Check.refuses("balance", Check.INDEX, none, y -> y.balance(0, 0, 0));
            Check.refuses("agrees", Check.INDEX, none, y -> y.agrees(0, 0));
            Check.refuses("month 1", Check.INDEX, none, y -> y.tax(0, 1));
            Divisionorder x = new Divisionorder();
            Rows.owed(x);
            Rows.paid(x);
            Check.same("payDay", x.payDay(), 0);
            Check.same("pass", x.pass(12), 12);
            Check.same("tax", x.tax(1, 12), 0);
        });
    }

    private void pass() {
        doc.test("2", "Lets months pass.", () -> {
            Divisionorder x = Scenes.one();
            x.oil(0, 0, 1, 100);
            Check.same("ahead of it", Check.answer(x, y -> y.oil(0, 1, 1, 50)), Check.INDEX);
            x.pass(1);
            Check.same("now", x.oil(0, 1, 1, 50), 0);
            Check.same("what was stays", x.revenue(0, 0), 100);
            Check.same("both", x.owed(0), 150);
            Check.same("not yet", Check.answer(x, y -> y.revenue(0, 2)), Check.INDEX);
        });
        doc.test("2", "@param months 1 to 12", () -> {
            for (int m = 1; m <= 12; m++) {
                int months = m;
                Check.answers("months " + m, m, Divisionorder::new, y -> y.pass(months));
                Check.answers("months " + m, 2 + m, Scenes::busy, y -> y.pass(months));
            }
        });
        doc.test("2", "@return the month then", () -> {
            Divisionorder x = new Divisionorder();
            Check.same("1", x.pass(1), 1);
            Check.same("12 more", x.pass(12), 13);
            Check.same("7 more", x.pass(7), 20);
        });
    }

    private void passWrong() {
        doc.test("2", "@throws IllegalArgumentException", () -> {
            Check.refusesOutside(1, 12, Check.ARGUMENT, Scenes::busy, Divisionorder::pass);
            Check.refusesOutside(1, 12, Check.ARGUMENT, Scenes::inTheLastMonth, Divisionorder::pass);
        });
        doc.test("2", "@throws IllegalStateException", () -> {
            for (int m = 1; m <= 12; m++) {
                int months = m;
                Check.answers("to 60 by " + m, 60, () -> Scenes.busyLater(58 - months), y -> y.pass(months));
                Check.refuses("to 61 by " + m, Check.STATE, () -> Scenes.busyLater(59 - months), y -> y.pass(months));
                Check.refuses("from 60 by " + m, Check.STATE, Scenes::inTheLastMonth, y -> y.pass(months));
            }
        });
    }

    private void tract() {
        doc.test("3", "Tells a tract.", () -> {
            Divisionorder x = new Divisionorder();
            x.pass(3);
            x.tract(1, 4);
            x.tract(3, 4);
            x.tract(4, 5);
            x.unit(7);
            Rows.workings(x, 0, 3, 0, 0, 0, 0, 50000000, 50000000);
            Check.same("told behind month 0", x.title(0, 4, 0), 10000);
        });
        doc.test("3", "@param acres 1 to 1000", () -> {
            Divisionorder x = new Divisionorder();
            x.tract(1, 0);
            x.tract(1000, 1);
            x.unit(3);
            // 99900.1 and 99900099.9
            Rows.workings(x, 0, 0, 99900, 99900100);
        });
        doc.test("3", "@param owner 0 to 9: who has all of it", () -> {
            for (int owner = 0; owner < 10; owner++) {
                Divisionorder x = new Divisionorder();
                x.tract(1, owner);
                for (int other = 0; other < 10; other++) {
                    Check.same("title of " + other, x.title(0, other, 0), other == owner ? 10000 : 0);
                }
            }
        });
        doc.test("3", "@return its number", () -> {
            Divisionorder x = new Divisionorder();
            for (int tract = 0; tract < 8; tract++) {
                Check.same("its number", x.tract(1, 0), tract);
            }
        });
    }

    private void tractWrong() {
        doc.test("3", "@throws IndexOutOfBoundsException", () -> {
            Check.refusesOutside(0, 9, Check.INDEX, Scenes::busy, (y, n) -> y.tract(1, n));
        });
        doc.test("3", "@throws IllegalArgumentException", () -> {
            Check.refusesOutside(1, 1000, Check.ARGUMENT, Scenes::busy, (y, n) -> y.tract(n, 0));
        });
        doc.test("3", "@throws IllegalStateException", () -> {
            Divisionorder x = new Divisionorder();
            for (int tract = 0; tract < 7; tract++) {
                x.tract(1, 0);
            }
            Check.same("the last one", x.tract(1, 0), 7);
            Check.same("one more", Check.answer(x, y -> y.tract(1, 0)), Check.STATE);
            Check.refuses("one more", Check.STATE, Scenes::fullOfTracts, y -> y.tract(1000, 9));
        });
    }

    private void deed() {
        doc.test("4", "Tells a deed.", () -> {
            Divisionorder x = new Divisionorder();
            x.tract(1, 0);
            x.tract(1, 0);
            x.deed(1, 0, 3, 4000, 0);
            Rows.titles(x, 0, 0, 10000);
            Rows.titles(x, 1, 0, 6000, 0, 0, 4000);
        });
        doc.test("4", "@param tract its number", () -> {
            Check.answers("tract 0", 9999, TellingBounds::full, y -> y.deed(0, 0, 1, 1, 60));
            Check.answers("tract 7", 9999, TellingBounds::full, y -> y.deed(7, 9, 1, 1, 60));
        });
        doc.test("4", "@param from 0 to 9", () -> {
            Check.answers("from 0", 0, TellingBounds::full, y -> y.deed(0, 0, 1, 10000, 60));
            Check.answers("from 9", 0, TellingBounds::full, y -> y.deed(7, 9, 1, 10000, 60));
        });
        doc.test("4", "@param to another owner", () -> {
            Divisionorder x = full();
            x.deed(0, 0, 9, 1, 60);
            x.deed(7, 9, 0, 2, 60);
            Check.same("to 9", x.title(0, 9, 60), 1);
            Check.same("to 0", x.title(7, 0, 60), 2);
        });
        doc.test("4", "@param parts 1 to 10000", () -> {
            Check.answers("parts 1", 9999, TellingBounds::full, y -> y.deed(0, 0, 1, 1, 0));
            Check.answers("parts 10000", 0, TellingBounds::full, y -> y.deed(0, 0, 1, 10000, 0));
        });
        doc.test("4", "@param month 0 to now", () -> {
            Divisionorder x = full();
            x.deed(0, 0, 1, 10, 60);
            Check.same("ahead of it", x.title(0, 1, 59), 0);
            Check.same("month 60", x.title(0, 1, 60), 10);
            x.deed(0, 0, 1, 5, 0);
            Check.same("month 0", x.title(0, 1, 0), 5);
            Check.same("both", x.title(0, 1, 60), 15);
        });
        doc.test("4", "@return how many parts the one has left now", () -> {
            Divisionorder x = new Divisionorder();
            x.tract(1, 0);
            x.pass(3);
            Check.same("now", x.deed(0, 0, 1, 6000, 2), 4000);
            Check.same("some come back", x.deed(0, 1, 0, 1000, 3), 5000);
            // In month 0 there are 6000 left, in month 2 none, and now 1000.
            Check.same("not then, but now", x.deed(0, 0, 2, 4000, 0), 1000);
            Check.same("all", x.deed(0, 1, 2, 5000, 3), 0);
        });
    }

    private void deedWrong() {
        doc.test("4", "@throws IndexOutOfBoundsException", () -> {
            Check.refusesOutside(0, 1, Check.INDEX, Scenes::busy, (y, n) -> y.deed(n, 0, 9, 1, 0));
            Check.refusesOutside(0, 7, Check.INDEX, Scenes::fullOfTracts, (y, n) -> y.deed(n, 0, 9, 1, 0));
            Check.refusesOutside(0, 9, Check.INDEX, Scenes::busy, (y, n) -> y.deed(0, n, 1, 1, 0));
            Check.refusesOutside(0, 9, Check.INDEX, Scenes::busy, (y, n) -> y.deed(0, 0, n, 1, 0));
            Check.refusesOutside(0, 2, Check.INDEX, Scenes::busy, (y, n) -> y.deed(0, 0, 1, 1, n));
            Check.refusesOutside(0, 60, Check.INDEX, Scenes::inTheLastMonth, (y, n) -> y.deed(0, 0, 1, 1, n));
        });
        doc.test("4", "@throws IllegalArgumentException", () -> {
            for (int o = 0; o < 10; o++) {
                int owner = o;
                Check.refuses("both " + o, Check.ARGUMENT, Scenes::busy, y -> y.deed(0, owner, owner, 1, 2));
            }
            Check.refusesOutside(1, 10000, Check.ARGUMENT, Scenes::busy, (y, n) -> y.deed(0, 0, 1, n, 2));
        });
        doc.test("4", "@throws IllegalStateException", () -> {
            Check.answers("all it has", 0, Scenes::busy, y -> y.deed(0, 0, 1, 3000, 0));
            Check.refuses("one more than it has", Check.STATE, Scenes::busy, y -> y.deed(0, 0, 1, 3001, 0));
            Check.refuses("of none", Check.STATE, Scenes::busy, y -> y.deed(0, 4, 1, 1, 0));
            Check.answers("from month 1 on", 3332, Scenes::busy, y -> y.deed(1, 1, 2, 1, 1));
            Check.refuses("not in that month, but later", Check.STATE, Scenes::busy, y -> y.deed(1, 1, 2, 1, 0));
            Check.answers("what it has later", 0, Scenes::busy, y -> y.deed(1, 0, 2, 6667, 0));
            Check.refuses("not later, but in that month", Check.STATE, Scenes::busy, y -> y.deed(1, 0, 2, 6668, 0));
            lessBetween();
            Divisionorder x = Scenes.fullOfDeeds();
            Check.same("forty-one", Check.answer(x, y -> y.deed(1, 0, 1, 1, 2)), Check.STATE);
            Divisionorder y = Scenes.busy();
            for (int deed = 3; deed < 39; deed++) {
                y.deed(0, 1, 2, 1, 2);
            }
            Check.same("forty", y.deed(1, 0, 1, 1, 2), 6666);
            Check.same("forty-one", Check.answer(y, z -> z.deed(0, 1, 2, 1, 2)), Check.STATE);
            Check.refuses("forty-one", Check.STATE, Scenes::fullOfDeeds, z -> z.deed(1, 0, 1, 1, 2));
        });
    }

    private static void lessBetween() {
        Divisionorder x = new Divisionorder();
        x.tract(1, 0);
        x.pass(3);
        x.deed(0, 0, 1, 6000, 2);
        x.deed(0, 1, 0, 1000, 3);
        Check.same("less between", Check.answer(x, y -> y.deed(0, 0, 2, 4001, 0)), Check.STATE);
        Check.same("less between, from it on", Check.answer(x, y -> y.deed(0, 0, 2, 4001, 2)), Check.STATE);
        Check.same("behind it", x.deed(0, 0, 2, 5000, 3), 0);
        Check.same("none left now", Check.answer(x, y -> y.deed(0, 0, 2, 1, 0)), Check.STATE);
    }

    private void title() {
        doc.test("5", "Returns a title.", () -> {
            Divisionorder x = Scenes.busy();
            Rows.titles(x, 0, 2, 3000, 5000, 2000);
            Rows.titles(x, 0, 2, 3000, 5000, 2000);
            Rows.titles(x, 1, 2, 6667, 3333);
        });
        doc.test("5", "@param tract its number", () -> {
            Check.answers("tract 0", 10000, TellingBounds::full, y -> y.title(0, 0, 60));
            Check.answers("tract 7", 0, TellingBounds::full, y -> y.title(7, 0, 60));
        });
        doc.test("5", "@param owner 0 to 9", () -> {
            Check.answers("owner 0", 0, TellingBounds::full, y -> y.title(7, 0, 60));
            Check.answers("owner 9", 10000, TellingBounds::full, y -> y.title(7, 9, 60));
        });
        doc.test("5", "@param month 0 to now", () -> {
            Check.answers("month 0", 10000, TellingBounds::full, y -> y.title(7, 9, 0));
            Check.answers("month 60", 10000, TellingBounds::full, y -> y.title(7, 9, 60));
            Check.answers("month 0 of 0", 5000, Scenes::three, y -> y.title(0, 1, 0));
        });
        doc.test("5", "@return the parts", () -> {
            Divisionorder x = full();
            x.deed(7, 9, 8, 1, 30);
            Check.same("10000", x.title(7, 9, 29), 10000);
            Check.same("0", x.title(7, 8, 29), 0);
            Check.same("9999", x.title(7, 9, 30), 9999);
            Check.same("1", x.title(7, 8, 30), 1);
        });
        doc.test("5", "@throws IndexOutOfBoundsException", () -> {
            Check.refusesOutside(0, 1, Check.INDEX, Scenes::busy, (y, n) -> y.title(n, 0, 0));
            Check.refusesOutside(0, 7, Check.INDEX, Scenes::fullOfTracts, (y, n) -> y.title(n, 0, 0));
            Check.refusesOutside(0, 9, Check.INDEX, Scenes::busy, (y, n) -> y.title(0, n, 0));
            Check.refusesOutside(0, 2, Check.INDEX, Scenes::busy, (y, n) -> y.title(0, 0, n));
            Check.refusesOutside(0, 60, Check.INDEX, Scenes::inTheLastMonth, (y, n) -> y.title(0, 0, n));
        });
    }

    private void lease() {
        doc.test("6", "Tells a lease, from now on.", () -> {
            Divisionorder x = Scenes.one();
            x.pass(2);
            x.lease(0, 0, 1, 250, 36);
            Rows.held(x, 0, "--x");
            Rows.workings(x, 0, 1, 100000000);
            Rows.workings(x, 0, 2, 0, 75000000);
            Rows.royalties(x, 0, 2, 25000000);
        });
        doc.test("6", "@param tract its number", () -> {
            Check.answers("tract 0", 0, Scenes::fullOfTracts, y -> y.lease(0, 0, 1, 1, 1) - 2);
            Check.answers("tract 7", 0, Scenes::fullOfTracts, y -> y.lease(7, 9, 1, 1, 1) - 2);
        });
        doc.test("6", "@param lessor 0 to 9", () -> {
            Check.answers("lessor 0", 2, Scenes::busy, y -> y.lease(0, 0, 1, 1, 1));
            Check.answers("lessor 9, without a title", 2, Scenes::busy, y -> y.lease(0, 9, 1, 1, 1));
        });
        doc.test("6", "@param lessee another owner", () -> {
            Check.answers("lessee 0", 2, Scenes::busy, y -> y.lease(0, 1, 0, 1, 1));
            Check.answers("lessee 9", 2, Scenes::busy, y -> y.lease(0, 1, 9, 1, 1));
        });
        doc.test("6", "@param royalty 0 to 500", () -> {
            int[][] due = {{0, 0, 100000000}, {1, 100000, 99900000}, {500, 50000000, 50000000}};
            for (int[] row : due) {
                Divisionorder x = Scenes.one();
                x.lease(0, 0, 1, row[0], 1);
                Rows.royalties(x, 0, 0, row[1]);
                Rows.workings(x, 0, 0, 0, row[2]);
            }
        });
        doc.test("6", "@param term 1 to 36", () -> {
            Divisionorder x = Scenes.one();
            x.lease(0, 0, 1, 1, 1);
            x.lease(0, 0, 1, 1, 36);
            x.pass(12);
            x.lease(0, 0, 1, 1, 36);
            x.pass(12);
            x.pass(12);
            x.pass(12);
            Rows.held(x, 0, "x-");
            Check.same("month 35 of 36", x.isHeld(1, 35), true);
            Check.same("month 36 of 36", x.isHeld(1, 36), false);
            Check.same("month 47 of 48", x.isHeld(2, 47), true);
            Check.same("month 48 of 48", x.isHeld(2, 48), false);
        });
        doc.test("6", "@return its number", () -> {
            Divisionorder x = Scenes.one();
            for (int lease = 0; lease < 16; lease++) {
                Check.same("its number", x.lease(0, 0, 1, 0, 1), lease);
            }
        });
    }

    private void leaseWrong() {
        doc.test("6", "@throws IndexOutOfBoundsException", () -> {
            Check.refusesOutside(0, 1, Check.INDEX, Scenes::busy, (y, n) -> y.lease(n, 0, 1, 1, 1));
            Check.refusesOutside(0, 7, Check.INDEX, Scenes::fullOfTracts, (y, n) -> y.lease(n, 0, 1, 1, 1));
            Check.refusesOutside(0, 9, Check.INDEX, Scenes::busy, (y, n) -> y.lease(0, n, 1, 1, 1));
            Check.refusesOutside(0, 9, Check.INDEX, Scenes::busy, (y, n) -> y.lease(0, 0, n, 1, 1));
        });
        doc.test("6", "@throws IllegalArgumentException", () -> {
            for (int o = 0; o < 10; o++) {
                int owner = o;
                Check.refuses("both " + o, Check.ARGUMENT, Scenes::busy, y -> y.lease(0, owner, owner, 1, 1));
            }
            Check.refusesOutside(0, 500, Check.ARGUMENT, Scenes::busy, (y, n) -> y.lease(0, 0, 1, n, 1));
            Check.refusesOutside(1, 36, Check.ARGUMENT, Scenes::busy, (y, n) -> y.lease(0, 0, 1, 1, n));
        });
        doc.test("6", "@throws IllegalStateException", () -> {
            Divisionorder x = Scenes.busy();
            for (int lease = 2; lease < 15; lease++) {
                x.lease(0, 0, 1, 0, 1);
            }
            Check.same("sixteen", x.lease(1, 0, 1, 0, 1), 15);
            Check.same("seventeen", Check.answer(x, y -> y.lease(0, 0, 1, 0, 1)), Check.STATE);
            Check.refuses("seventeen", Check.STATE, Scenes::fullOfLeases, y -> y.lease(1, 9, 0, 500, 36));
        });
    }

    private void isHeld() {
        doc.test("7", "Tells whether a lease is in force, whether it counts or not.", () -> {
            Divisionorder x = Scenes.one();
            x.lease(0, 0, 1, 100, 2);
            x.lease(0, 0, 2, 100, 2);
            x.lease(0, 5, 2, 100, 2);
            x.pass(2);
            Rows.held(x, 0, "xx-");
            Rows.held(x, 1, "xx-");
            Rows.held(x, 2, "xx-");
            Rows.royalties(x, 0, 0, 10000000);
        });
        doc.test("7", "@param lease its number", () -> {
            Check.answers("lease 0", true, TellingBounds::full, y -> y.isHeld(0, 60));
            Check.answers("lease 15", true, TellingBounds::full, y -> y.isHeld(15, 60));
        });
        doc.test("7", "@param month 0 to now", () -> {
            Check.answers("month 0", true, Scenes::busy, y -> y.isHeld(0, 0));
            Check.answers("month 2", true, Scenes::busy, y -> y.isHeld(1, 2));
            Check.answers("month 0, ahead of it", false, TellingBounds::full, y -> y.isHeld(0, 0));
            Check.answers("month 59, ahead of it", false, TellingBounds::full, y -> y.isHeld(0, 59));
        });
        doc.test("7", "@return whether it is", () -> {
            Divisionorder x = full();
            Check.same("in the last month", x.isHeld(15, 60), true);
            Divisionorder y = Scenes.one();
            y.lease(0, 0, 1, 100, 1);
            for (int times = 0; times < 5; times++) {
                y.pass(12);
            }
            for (int month = 0; month < 60; month++) {
                y.oil(0, month, 1, 0);
            }
            Check.same("to the last month", y.isHeld(0, 60), true);
            y.oil(0, 59, 0, 0);
            Check.same("not in the last month", y.isHeld(0, 60), false);
            Check.same("in month 59", y.isHeld(0, 59), true);
            y.oil(0, 0, 0, 0);
            Check.same("not in month 1", y.isHeld(0, 1), false);
            Check.same("in month 0", y.isHeld(0, 0), true);
        });
        doc.test("7", "@throws IndexOutOfBoundsException", () -> {
            Check.refusesOutside(0, 1, Check.INDEX, Scenes::busy, (y, n) -> y.isHeld(n, 0));
            Check.refusesOutside(0, 15, Check.INDEX, Scenes::fullOfLeases, (y, n) -> y.isHeld(n, 0));
            Check.refusesOutside(0, 2, Check.INDEX, Scenes::busy, (y, n) -> y.isHeld(0, n));
            Check.refusesOutside(0, 60, Check.INDEX, Scenes::inTheLastMonth, (y, n) -> y.isHeld(0, n));
        });
    }

    private void unit() {
        doc.test("8", "Makes a unit, from now on.", () -> {
            Divisionorder x = new Divisionorder();
            x.tract(1, 0);
            x.pass(2);
            x.unit(1);
            x.well(0);
            Check.same("ahead of it", Check.answer(x, y -> y.revenue(0, 1)), Check.INDEX);
            Check.same("oil ahead of it", Check.answer(x, y -> y.oil(0, 1, 1, 1)), Check.STATE);
            Check.same("now", x.oil(0, 2, 1, 1), 0);
            Check.same("revenue now", x.revenue(0, 2), 1);
        });
        doc.test("8", "@param tracts bit t for the tract t", () -> {
            for (int tract = 0; tract < 8; tract++) {
                Divisionorder x = new Divisionorder();
                for (int owner = 0; owner < 8; owner++) {
                    x.tract(1, owner);
                }
                x.unit(1 << tract);
                Check.same("tract " + tract, x.interest(0, 0, tract, false), 100000000);
                Check.same("all but it", x.unit(255 - (1 << tract)), 1);
                Check.same("all but it", x.interest(1, 0, tract, false), 0);
                Check.same("each other one", x.interest(1, 0, (tract + 1) % 8, false) / 10000, 1428);
            }
            Divisionorder y = new Divisionorder();
            for (int owner = 0; owner < 8; owner++) {
                y.tract(1, owner);
            }
            Check.same("all", y.unit(255), 0);
            Rows.workings(y, 0, 0, 12500000, 12500000, 12500000, 12500000, 12500000, 12500000, 12500000, 12500000);
        });
        doc.test("8", "@return its number", () -> {
            Divisionorder x = new Divisionorder();
            x.tract(1, 0);
            x.tract(1, 0);
            x.tract(1, 0);
            Check.same("its number", x.unit(4), 0);
            Check.same("its number", x.unit(1), 1);
            Check.same("its number", x.unit(2), 2);
        });
    }

    private void unitWrong() {
        doc.test("8", "@throws IllegalArgumentException", () -> {
            Check.refuses("none", Check.ARGUMENT, Scenes::busy, y -> y.unit(0));
            Check.answers("a tract of none", Check.ARGUMENT, Divisionorder::new, y -> y.unit(1));
            for (int b = 2; b < 32; b++) {
                int bit = 1 << b;
                Check.refuses("bit " + b + " of 2", Check.ARGUMENT, Scenes::busy, y -> y.unit(bit));
            }
            for (int b = 8; b < 32; b++) {
                int bit = 1 << b;
                Check.refuses("bit " + b + " of 8", Check.ARGUMENT, Scenes::fullOfTracts, y -> y.unit(bit));
                Check.refuses("bit " + b + " of 8, and one", Check.ARGUMENT, Scenes::fullOfTracts, y -> y.unit(bit + 4));
            }
            for (int tracts : new int[] {-1, -256, Integer.MAX_VALUE, Integer.MIN_VALUE + 4}) {
                Check.refuses("unit(" + tracts + ")", Check.ARGUMENT, Scenes::fullOfTracts, y -> y.unit(tracts));
            }
        });
        doc.test("8", "@throws IllegalStateException", () -> {
            Check.refuses("of unit 0", Check.STATE, Scenes::busy, y -> y.unit(1));
            Check.refuses("of unit 1", Check.STATE, Scenes::busy, y -> y.unit(2));
            Check.refuses("of both", Check.STATE, Scenes::busy, y -> y.unit(3));
            Check.refuses("one of them", Check.STATE, Scenes::fullOfTracts, y -> y.unit(128 + 2));
            Check.refuses("the first of them", Check.STATE, Scenes::fullOfTracts, y -> y.unit(255));
            Check.answers("none of them", 2, Scenes::fullOfTracts, y -> y.unit(255 - 3));
            Check.refuses("four", Check.STATE, Scenes::fullOfUnits, y -> y.unit(8));
            Check.refuses("four, of a unit", Check.STATE, Scenes::fullOfUnits, y -> y.unit(8 + 4));
        });
    }

    private void well() {
        doc.test("9", "Tells a well.", () -> {
            Divisionorder x = Scenes.one();
            x.pass(1);
            Check.same("ahead of it", Check.answer(x, y -> y.oil(1, 0, 1, 1)), Check.INDEX);
            x.well(0);
            // A well that is told later gives oil in the months of its unit.
            Check.same("in month 0", x.oil(1, 0, 1, 1), 0);
            Check.same("of unit 0", x.revenue(0, 0), 1);
        });
        doc.test("9", "@param unit its number", () -> {
            Divisionorder x = Scenes.fullOfUnits();
            Check.same("unit 0", x.well(0), 2);
            Check.same("unit 2", x.well(2), 3);
            x.oil(2, 2, 1, 1);
            x.oil(3, 2, 1, 2);
            Check.same("revenue of unit 2", x.revenue(2, 2), 2);
        });
        doc.test("9", "@return the number of the well", () -> {
            Divisionorder x = Scenes.one();
            for (int well = 1; well < 6; well++) {
                Check.same("its number", x.well(0), well);
            }
        });
        doc.test("9", "@throws IndexOutOfBoundsException", () -> {
            Check.refusesOutside(0, 1, Check.INDEX, Scenes::busy, Divisionorder::well);
            Check.refusesOutside(0, 2, Check.INDEX, Scenes::fullOfUnits, Divisionorder::well);
        });
        doc.test("9", "@throws IllegalStateException", () -> {
            Check.answers("six", 5, () -> {
                Divisionorder x = Scenes.busy();
                x.well(0);
                x.well(0);
                x.well(0);
                return x;
            }, y -> y.well(1));
            Check.refuses("seven", Check.STATE, Scenes::fullOfWells, y -> y.well(0));
            Check.refuses("seven, of the other unit", Check.STATE, Scenes::fullOfWells, y -> y.well(1));
        });
    }

    private void oil() {
        doc.test("10", "Tells what a well gave.", () -> {
            Divisionorder x = Scenes.one();
            x.oil(0, 0, 7, 11);
            Check.same("revenue", x.revenue(0, 0), 77);
            x.oil(0, 0, 0, 0);
            Check.same("nothing", x.revenue(0, 0), 0);
        });
        doc.test("10", "@param well its number", () -> {
            Divisionorder x = full();
            Check.same("well 0", x.oil(0, 60, 1, 1), 0);
            Check.same("well 5", x.oil(5, 60, 1, 2), 0);
            Check.same("of unit 0", x.revenue(0, 60), 1);
            Check.same("of unit 2", x.revenue(2, 60), 2);
        });
        doc.test("10", "@param month 0 to now", () -> {
            Check.answers("month 0 of 0", 0, Scenes::one, y -> y.oil(0, 0, 1, 1));
            Check.answers("month 0 of 2", 100, Scenes::busy, y -> y.oil(0, 0, 1, 1));
            Check.answers("month 2 of 2", 30, Scenes::busy, y -> y.oil(0, 2, 1, 1));
            Check.answers("month 60", 0, TellingBounds::full, y -> y.oil(0, 60, 1, 1));
        });
        doc.test("10", "@param barrels 0 to 1000", () -> {
            Divisionorder x = Scenes.one();
            Check.same("barrels 1000", x.oil(0, 0, 1000, 1), 0);
            Check.same("revenue of 1000", x.revenue(0, 0), 1000);
            Check.same("barrels 0", x.oil(0, 0, 0, 1), 1000);
            Check.same("revenue of 0", x.revenue(0, 0), 0);
        });
        doc.test("10", "@param price 0 to 10000", () -> {
            Divisionorder x = Scenes.one();
            x.oil(0, 0, 1000, 10000);
            Check.same("price 10000", x.revenue(0, 0), 10000000);
            x.oil(0, 0, 1000, 0);
            Check.same("price 0", x.revenue(0, 0), 0);
            x.oil(0, 0, 1, 1);
            Check.same("price 1", x.revenue(0, 0), 1);
        });
        doc.test("10", "@return the barrels before", () -> {
            Divisionorder x = Scenes.one();
            x.well(0);
            x.pass(1);
            Check.same("none", x.oil(0, 0, 1000, 5), 0);
            Check.same("1000", x.oil(0, 0, 1, 5), 1000);
            Check.same("1", x.oil(0, 0, 0, 5), 1);
            Check.same("0", x.oil(0, 0, 2, 5), 0);
            Check.same("of the other month", x.oil(0, 1, 3, 5), 0);
            Check.same("of the other well", x.oil(1, 0, 4, 5), 0);
            Check.same("2", x.oil(0, 0, 2, 6), 2);
        });
    }

    private void oilWrong() {
        doc.test("10", "@throws IndexOutOfBoundsException", () -> {
            Check.refusesOutside(0, 1, Check.INDEX, Scenes::busy, (y, n) -> y.oil(n, 2, 1, 1));
            Check.refusesOutside(0, 5, Check.INDEX, Scenes::fullOfWells, (y, n) -> y.oil(n, 2, 1, 1));
            Check.refusesOutside(0, 2, Check.INDEX, Scenes::busy, (y, n) -> y.oil(0, n, 1, 1));
            Check.refusesOutside(0, 60, Check.INDEX, Scenes::inTheLastMonth, (y, n) -> y.oil(0, n, 1, 1));
        });
        doc.test("10", "@throws IllegalArgumentException", () -> {
            Check.refusesOutside(0, 1000, Check.ARGUMENT, Scenes::busy, (y, n) -> y.oil(0, 2, n, 1));
            Check.refusesOutside(0, 10000, Check.ARGUMENT, Scenes::busy, (y, n) -> y.oil(0, 2, 1, n));
        });
        doc.test("10", "@throws IllegalStateException", () -> {
            Check.answers("the month of the unit", 50, Scenes::busy, y -> y.oil(1, 1, 0, 0));
            Check.refuses("the month ahead of it", Check.STATE, Scenes::busy, y -> y.oil(1, 0, 0, 0));
            Check.answers("month 60 of unit 2", 0, TellingBounds::full, y -> y.oil(4, 60, 0, 0));
            Check.answers("month 59 of unit 2", Check.STATE, TellingBounds::full, y -> y.oil(4, 59, 0, 0));
        });
    }

    private void cost() {
        doc.test("11", "Tells a cost.", () -> {
            Divisionorder x = Scenes.one();
            x.cost(0, 0, 7);
            Check.same("due", x.due(0, 0, 0), -7);
        });
        doc.test("11", "@param well its number", () -> {
            Divisionorder x = full();
            Check.same("well 0", x.cost(0, 60, 1), 1);
            Check.same("well 5", x.cost(5, 60, 2), 2);
            Check.same("of unit 0", x.due(0, 60, 0), -1);
            Check.same("of unit 2, whose lease has the royalty 100", x.due(2, 60, 0), -2);
        });
        doc.test("11", "@param month 0 to now", () -> {
            Check.answers("month 0 of 0", 1, Scenes::one, y -> y.cost(0, 0, 1));
            Check.answers("month 0 of 2", 5002, Scenes::busy, y -> y.cost(0, 0, 1));
            Check.answers("month 2 of 2", 778, Scenes::busy, y -> y.cost(0, 2, 1));
            Check.answers("month 60", 1, TellingBounds::full, y -> y.cost(0, 60, 1));
        });
        doc.test("11", "@param cents 1 to 1000000", () -> {
            Check.answers("cents 1", 1, Scenes::one, y -> y.cost(0, 0, 1));
            Check.answers("cents 1000000", 1000000, Scenes::one, y -> y.cost(0, 0, 1000000));
        });
        doc.test("11", "@return all costs of that well and month", () -> {
            Divisionorder x = Scenes.one();
            x.well(0);
            x.pass(1);
            Check.same("first", x.cost(0, 0, 5), 5);
            Check.same("other well", x.cost(1, 0, 3), 3);
            Check.same("other month", x.cost(0, 1, 2), 2);
            Check.same("added up", x.cost(0, 0, 1), 6);
        });
    }

    private void costWrong() {
        doc.test("11", "@throws IndexOutOfBoundsException", () -> {
            Check.refusesOutside(0, 1, Check.INDEX, Scenes::busy, (y, n) -> y.cost(n, 2, 1));
            Check.refusesOutside(0, 5, Check.INDEX, Scenes::fullOfWells, (y, n) -> y.cost(n, 2, 1));
            Check.refusesOutside(0, 2, Check.INDEX, Scenes::busy, (y, n) -> y.cost(0, n, 1));
            Check.refusesOutside(0, 60, Check.INDEX, Scenes::inTheLastMonth, (y, n) -> y.cost(0, n, 1));
        });
        doc.test("11", "@throws IllegalArgumentException", () -> {
            Check.refusesOutside(1, 1000000, Check.ARGUMENT, Scenes::busy, (y, n) -> y.cost(0, 2, n));
            Check.refusesOutside(1, 1000000, Check.ARGUMENT, Scenes::fullOfCosts, (y, n) -> y.cost(0, 2, n));
        });
        doc.test("11", "@throws IllegalStateException", () -> {
            Check.answers("the month of the unit", 1235, Scenes::busy, y -> y.cost(1, 1, 1));
            Check.refuses("the month ahead of it", Check.STATE, Scenes::busy, y -> y.cost(1, 0, 1));
            Check.refuses("10000001", Check.STATE, Scenes::fullOfCosts, y -> y.cost(0, 2, 1));
            Check.refuses("11000000", Check.STATE, Scenes::fullOfCosts, y -> y.cost(0, 2, 1000000));
            Check.answers("of another month", 5002, Scenes::fullOfCosts, y -> y.cost(0, 0, 1));
            Check.answers("of another well", 1, Scenes::fullOfCosts, y -> y.cost(1, 2, 1));
            Divisionorder x = Scenes.one();
            x.cost(0, 0, 1);
            for (int times = 1; times < 10; times++) {
                x.cost(0, 0, 1000000);
            }
            Check.same("10000001", Check.answer(x, y -> y.cost(0, 0, 1000000)), Check.STATE);
            Check.same("just 10000000", x.cost(0, 0, 999999), 10000000);
        });
    }

    private void tax() {
        doc.test("12", "Tells the tax.", () -> {
            Divisionorder x = Scenes.one();
            x.oil(0, 0, 1, 100);
            x.tax(7, 0);
            Check.same("revenue", x.revenue(0, 0), 93);
        });
        doc.test("12", "@param hundredths 0 to 50", () -> {
            Divisionorder x = Scenes.one();
            x.oil(0, 0, 1000, 10000);
            x.tax(50, 0);
            Check.same("50", x.revenue(0, 0), 5000000);
            x.tax(1, 0);
            Check.same("1", x.revenue(0, 0), 9900000);
            x.tax(0, 0);
            Check.same("0", x.revenue(0, 0), 10000000);
        });
        doc.test("12", "@param month 0 to now: from which on", () -> {
            Divisionorder x = Scenes.one();
            x.pass(3);
            for (int month = 0; month <= 3; month++) {
                x.oil(0, month, 1, 100);
            }
            x.tax(10, 3);
            Rows.revenues(x, 0, 100, 100, 100, 90);
            x.tax(20, 0);
            Rows.revenues(x, 0, 80, 80, 80, 90);
            x.pass(12);
            x.oil(0, 15, 1, 100);
            Check.same("from 3 on", x.revenue(0, 15), 90);
            Check.answers("month 60", 0, TellingBounds::full, y -> y.tax(1, 60));
        });
        doc.test("12", "@return what it was for that month", () -> {
            Divisionorder x = new Divisionorder();
            x.pass(4);
            Check.same("at first", x.tax(10, 2), 0);
            Check.same("ahead of it", x.tax(0, 1), 0);
            Check.same("told ahead", x.tax(30, 4), 10);
            Check.same("told ahead, up to the next one", x.tax(20, 3), 10);
            Check.same("told", x.tax(5, 2), 10);
            Check.same("told", x.tax(5, 3), 20);
            Check.same("told", x.tax(50, 4), 30);
            Check.same("told", x.tax(0, 4), 50);
            Check.same("told as 0", x.tax(1, 4), 0);
        });
        doc.test("12", "@throws IndexOutOfBoundsException", () -> {
            Check.refusesOutside(0, 2, Check.INDEX, Scenes::busy, (y, n) -> y.tax(1, n));
            Check.refusesOutside(0, 60, Check.INDEX, Scenes::inTheLastMonth, (y, n) -> y.tax(1, n));
        });
        doc.test("12", "@throws IllegalArgumentException", () -> {
            Check.refusesOutside(0, 50, Check.ARGUMENT, Scenes::busy, (y, n) -> y.tax(n, 1));
        });
    }

    private void consent() {
        doc.test("13", "Tells whether an owner consents in a unit, from now on.", () -> {
            Divisionorder x = Scenes.three();
            x.cost(0, 0, 1000);
            x.pass(1);
            x.cost(0, 1, 1000);
            x.consent(0, 2, false);
            Rows.balances(x, 0, 0);
            Rows.balances(x, 0, 1, 0, 0, 600);
            x.pass(1);
            x.consent(0, 2, true);
            Rows.balances(x, 0, 1, 0, 0, 600);
        });
        doc.test("13", "@param unit its number", () -> {
            Divisionorder x = full();
            x.consent(0, 0, false);
            x.consent(2, 9, false);
            Check.same("unit 0", x.consent(0, 0, true), false);
            Check.same("unit 1", x.consent(1, 0, true), true);
            Check.same("unit 2", x.consent(2, 9, true), false);
        });
        doc.test("13", "@param owner 0 to 9", () -> {
            Divisionorder x = Scenes.one();
            x.consent(0, 0, false);
            x.consent(0, 9, false);
            for (int owner = 0; owner < 10; owner++) {
                Check.same("owner " + owner, x.consent(0, owner, true), owner > 0 && owner < 9);
            }
        });
        doc.test("13", "@param consents whether", () -> {
            Divisionorder x = Scenes.three();
            x.cost(0, 0, 1000);
            x.consent(0, 1, true);
            Check.same("consents", x.balance(0, 0, 1), 0);
            x.consent(0, 1, false);
            Check.same("does not", x.balance(0, 0, 1), 1500);
        });
        doc.test("13", "@return whether it did", () -> {
            Divisionorder x = Scenes.one();
            Check.same("at first", x.consent(0, 3, false), true);
            Check.same("not", x.consent(0, 3, false), false);
            x.pass(1);
            Check.same("not a month later", x.consent(0, 3, true), false);
            Check.same("again", x.consent(0, 3, true), true);
        });
        doc.test("13", "@throws IndexOutOfBoundsException", () -> {
            for (boolean is : new boolean[] {true, false}) {
                Check.refusesOutside(0, 1, Check.INDEX, Scenes::busy, (y, n) -> y.consent(n, 0, is));
                Check.refusesOutside(0, 2, Check.INDEX, Scenes::fullOfUnits, (y, n) -> y.consent(n, 0, is));
                Check.refusesOutside(0, 9, Check.INDEX, Scenes::busy, (y, n) -> y.consent(0, n, is));
            }
        });
    }

    private void penalty() {
        doc.test("14", "Sets the penalty, for all months.", () -> {
            Divisionorder x = Scenes.three();
            x.consent(0, 2, false);
            x.cost(0, 0, 100);
            x.pass(12);
            x.cost(0, 12, 100);
            Check.same("by 300", x.balance(0, 12, 2), 120);
            x.penalty(200);
            Check.same("month 0", x.balance(0, 0, 2), 40);
            Check.same("both", x.balance(0, 12, 2), 80);
            x.pass(1);
            x.cost(0, 13, 100);
            Check.same("from then on", x.balance(0, 13, 2), 120);
        });
        doc.test("14", "@param hundredths 100 to 500", () -> {
            Divisionorder x = Scenes.three();
            x.consent(0, 2, false);
            x.cost(0, 0, 100);
            x.penalty(100);
            Check.same("100", x.balance(0, 0, 2), 20);
            x.penalty(500);
            Check.same("500", x.balance(0, 0, 2), 100);
        });
        doc.test("14", "@return the one before", () -> {
            Divisionorder x = new Divisionorder();
            Check.same("at first", x.penalty(100), 300);
            Check.same("100", x.penalty(500), 100);
            Check.same("500", x.penalty(500), 500);
        });
        doc.test("14", "@throws IllegalArgumentException", () -> {
            Check.refusesOutside(100, 500, Check.ARGUMENT, Scenes::busy, Divisionorder::penalty);
        });
    }
}
