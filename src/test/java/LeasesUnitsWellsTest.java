/** Promises 6 to 14. */
public final class LeasesUnitsWellsTest {
    private static final int[] BIG = {Integer.MIN_VALUE, Integer.MAX_VALUE};

    public static void main(String[] args) {
        lease();
        leaseWrong();
        isHeldInItsTerm();
        isHeldByProduction();
        isHeldByTheUnitOfTheTract();
        isHeldWrong();
        unit();
        unitWrong();
        well();
        oil();
        oilWrong();
        cost();
        costWrong();
        tax();
        taxWrong();
        consent();
        consentWrong();
        penalty();
        penaltyWrong();
        Check.end("LeasesUnitsWellsTest");
    }

    private static void lease() {
        Divisionorder x = new Divisionorder();
        x.tract(5, 0);
        x.pass(2);
        for (int lease = 0; lease < 16; lease++) {
            int royalty = lease % 2 == 0 ? 0 : 500;
            int term = lease % 3 == 0 ? 1 : 36;
            Check.same("6: lease", x.lease(0, 9 - lease % 3, lease % 5, royalty, term), lease);
        }
    }

    private static void leaseWrong() {
        Check.refuses("6: tract 2", Check.INDEX, Scenes::busy, y -> y.lease(2, 0, 1, 1, 1));
        Check.refuses("6: tract 8", Check.INDEX, Scenes::fullOfTracts, y -> y.lease(8, 0, 1, 1, 1));
        Check.refuses("6: tract -1", Check.INDEX, Scenes::busy, y -> y.lease(-1, 0, 1, 1, 1));
        Check.refuses("6: lessor 10", Check.INDEX, Scenes::busy, y -> y.lease(0, 10, 1, 1, 1));
        Check.refuses("6: lessor -1", Check.INDEX, Scenes::busy, y -> y.lease(0, -1, 1, 1, 1));
        Check.refuses("6: lessee 10", Check.INDEX, Scenes::busy, y -> y.lease(0, 0, 10, 1, 1));
        Check.refuses("6: lessee -1", Check.INDEX, Scenes::busy, y -> y.lease(0, 0, -1, 1, 1));
        Check.refuses("6: the same", Check.ARGUMENT, Scenes::busy, y -> y.lease(0, 0, 0, 1, 1));
        Check.refuses("6: royalty -1", Check.ARGUMENT, Scenes::busy, y -> y.lease(0, 0, 1, -1, 1));
        Check.refuses("6: royalty 501", Check.ARGUMENT, Scenes::busy, y -> y.lease(0, 0, 1, 501, 1));
        Check.refuses("6: term 0", Check.ARGUMENT, Scenes::busy, y -> y.lease(0, 0, 1, 1, 0));
        Check.refuses("6: term 37", Check.ARGUMENT, Scenes::busy, y -> y.lease(0, 0, 1, 1, 37));
        Check.refuses("6: owner ahead of term", Check.INDEX, Scenes::busy, y -> y.lease(0, 0, 10, 501, 0));
        Check.refuses("6: two owners ahead of the same", Check.INDEX, Scenes::busy, y -> y.lease(0, 10, 10, 1, 1));
        Check.refuses("6: seventeen", Check.STATE, Scenes::fullOfLeases, y -> y.lease(0, 0, 1, 1, 1));
        Check.refuses("6: tract ahead of seventeen", Check.INDEX, Scenes::fullOfLeases, y -> y.lease(2, 0, 1, 1, 1));
        Check.refuses("6: term ahead of seventeen", Check.ARGUMENT, Scenes::fullOfLeases,
                y -> y.lease(0, 0, 1, 1, 37));
    }

    private static void held(Divisionorder x, String what, int lease, String due) {
        StringBuilder got = new StringBuilder();
        for (int month = 0; month < due.length(); month++) {
            got.append(x.isHeld(lease, month) ? 'x' : '-');
        }
        Check.same("7: " + what, got, due);
    }

    private static void isHeldInItsTerm() {
        Divisionorder x = new Divisionorder();
        x.tract(5, 0);
        x.tract(5, 0);
        x.lease(0, 0, 1, 100, 1);
        x.pass(2);
        x.lease(0, 0, 1, 100, 2);
        x.lease(0, 7, 1, 100, 3);
        x.unit(1);
        x.pass(4);
        held(x, "one month", 0, "x------");
        held(x, "two months, whether it counts or not", 1, "--xx---");
        held(x, "without a title", 2, "--xxx--");
        x.lease(1, 0, 1, 100, 36);
        x.pass(12);
        x.pass(12);
        x.pass(12);
        Check.same("7: the last one of its term", x.isHeld(3, 41), true);
        Check.same("7: behind its term, of no unit", x.isHeld(3, 42), false);
    }

    private static void isHeldByProduction() {
        Divisionorder x = Scenes.one();
        x.well(0);
        x.lease(0, 0, 1, 100, 2);
        x.pass(6);
        held(x, "without oil", 0, "xx-----");
        x.oil(0, 2, 1, 100);
        x.oil(0, 3, 1, 100);
        held(x, "none in the last one of the term", 0, "xx-----");
        x.oil(0, 1, 1000, 0);
        held(x, "for nothing", 0, "xxxxx--");
        x.oil(1, 4, 3, 5);
        held(x, "of another well", 0, "xxxxxx-");
        x.oil(0, 2, 0, 100);
        held(x, "told anew, a gap", 0, "xxx----");
        x.oil(1, 2, 7, 100);
        held(x, "told anew, no gap", 0, "xxxxxx-");
        x.oil(0, 2, 5, 100);
        x.oil(1, 2, 0, 100);
        held(x, "one well for another", 0, "xxxxxx-");
        x.oil(0, 5, 1, 1);
        x.oil(0, 6, 1, 1);
        held(x, "up to now", 0, "xxxxxxx");
    }

    private static void isHeldByTheUnitOfTheTract() {
        Divisionorder x = new Divisionorder();
        x.tract(5, 0);
        x.tract(5, 0);
        x.lease(0, 0, 1, 100, 1);
        x.lease(0, 0, 2, 100, 2);
        x.lease(0, 0, 3, 100, 3);
        x.lease(1, 0, 4, 100, 3);
        x.pass(2);
        x.unit(1);
        x.well(0);
        x.unit(2);
        x.well(1);
        x.oil(0, 2, 1, 1);
        held(x, "the unit was told too late by two", 0, "x--");
        held(x, "the unit was told too late by one", 1, "xx-");
        x.pass(1);
        held(x, "the unit was told in the last month of the term", 2, "xxxx");
        held(x, "the other unit", 3, "xxx-");
    }

    private static void isHeldWrong() {
        Check.refuses("7: lease 2", Check.INDEX, Scenes::busy, y -> y.isHeld(2, 0));
        Check.refuses("7: lease 16", Check.INDEX, Scenes::fullOfLeases, y -> y.isHeld(16, 0));
        Check.refuses("7: lease -1", Check.INDEX, Scenes::busy, y -> y.isHeld(-1, 0));
        Check.refuses("7: month 3", Check.INDEX, Scenes::busy, y -> y.isHeld(0, 3));
        Check.refuses("7: month -1", Check.INDEX, Scenes::busy, y -> y.isHeld(0, -1));
    }

    private static void unit() {
        Divisionorder x = new Divisionorder();
        for (int tract = 0; tract < 8; tract++) {
            x.tract(tract + 1, tract);
        }
        x.pass(1);
        Check.same("8: unit 0", x.unit(128 + 1), 0);
        x.pass(1);
        Check.same("8: unit 1", x.unit(2), 1);
        Check.same("8: unit 2", x.unit(4 + 8 + 16), 2);
        Check.same("8: by acres", x.interest(0, 1, 0, false), 11111111);
        Check.same("8: by acres", x.interest(0, 1, 7, false), 88888889);
        Check.same("8: of no other tract", x.interest(0, 2, 1, false), 0);
        Check.same("8: all", x.interest(1, 2, 1, false), 100000000);
        Check.same("8: by acres", x.interest(2, 2, 3, false), 33333333);
        Check.same("8: ahead of it", Check.answer(x, y -> y.interest(0, 0, 0, false)), Check.INDEX);
        Check.same("8: ahead of it", Check.answer(x, y -> y.interest(1, 1, 0, false)), Check.INDEX);
    }

    private static void unitWrong() {
        for (int tracts : new int[] {0, 4, 128, 256, 8 + 1, 1 << 30, 1 << 31, -1, Integer.MAX_VALUE}) {
            Check.refuses("8: unit(" + tracts + ")", Check.ARGUMENT, Scenes::busy, y -> y.unit(tracts));
        }
        Check.refuses("8: nine tracts", Check.ARGUMENT, Scenes::fullOfTracts, y -> y.unit(256));
        Check.refuses("8: of a unit", Check.STATE, Scenes::busy, y -> y.unit(1));
        Check.refuses("8: one of a unit", Check.STATE, Scenes::fullOfTracts, y -> y.unit(128 + 2));
        Check.refuses("8: four", Check.STATE, Scenes::fullOfUnits, y -> y.unit(8));
        Check.refuses("8: none ahead of four", Check.ARGUMENT, Scenes::fullOfUnits, y -> y.unit(0));
        Check.refuses("8: no tract ahead of four", Check.ARGUMENT, Scenes::fullOfUnits, y -> y.unit(16));
        Check.refuses("8: no tract ahead of one of a unit", Check.ARGUMENT, Scenes::busy, y -> y.unit(4 + 1));
    }

    private static void well() {
        Divisionorder x = Scenes.one();
        x.tract(1, 1);
        x.unit(2);
        for (int well = 1; well < 6; well++) {
            Check.same("9: well", x.well(well % 2), well);
        }
        x.oil(0, 0, 1, 1);
        x.oil(1, 0, 10, 1);
        x.oil(2, 0, 100, 1);
        x.oil(5, 0, 1000, 1);
        Check.same("9: of its unit", x.revenue(0, 0), 101);
        Check.same("9: of its unit", x.revenue(1, 0), 1010);
        Check.refuses("9: unit 2", Check.INDEX, Scenes::busy, y -> y.well(2));
        Check.refuses("9: unit 3", Check.INDEX, Scenes::fullOfUnits, y -> y.well(3));
        Check.refuses("9: unit -1", Check.INDEX, Scenes::busy, y -> y.well(-1));
        Check.refuses("9: seven", Check.STATE, Scenes::fullOfWells, y -> y.well(0));
        Check.refuses("9: unit ahead of seven", Check.INDEX, Scenes::fullOfWells, y -> y.well(2));
    }

    private static void oil() {
        Divisionorder x = Scenes.one();
        x.well(0);
        x.pass(1);
        Check.same("10: first", x.oil(0, 0, 1000, 10000), 0);
        Check.same("10: revenue", x.revenue(0, 0), 10000000);
        Check.same("10: anew", x.oil(0, 0, 5, 7), 1000);
        Check.same("10: revenue anew", x.revenue(0, 0), 35);
        Check.same("10: other price", x.oil(0, 0, 5, 8), 5);
        Check.same("10: revenue of other price", x.revenue(0, 0), 40);
        Check.same("10: other well", x.oil(1, 0, 3, 1), 0);
        Check.same("10: revenue of both", x.revenue(0, 0), 43);
        Check.same("10: other month", x.oil(0, 1, 2, 0), 0);
        Check.same("10: nothing", x.oil(0, 0, 0, 0), 5);
        Check.same("10: nothing again", x.oil(0, 0, 0, 9), 0);
        Check.same("10: revenue of the other one", x.revenue(0, 0), 3);
        Check.same("10: for nothing", x.oil(0, 1, 2, 0), 2);
        Check.same("10: revenue for nothing", x.revenue(0, 1), 0);
    }

    private static void oilWrong() {
        Check.refuses("10: well 2", Check.INDEX, Scenes::busy, y -> y.oil(2, 2, 1, 1));
        Check.refuses("10: well 6", Check.INDEX, Scenes::fullOfWells, y -> y.oil(6, 2, 1, 1));
        Check.refuses("10: well -1", Check.INDEX, Scenes::busy, y -> y.oil(-1, 2, 1, 1));
        Check.refuses("10: month 3", Check.INDEX, Scenes::busy, y -> y.oil(0, 3, 1, 1));
        Check.refuses("10: month -1", Check.INDEX, Scenes::busy, y -> y.oil(0, -1, 1, 1));
        Check.refuses("10: barrels -1", Check.ARGUMENT, Scenes::busy, y -> y.oil(0, 0, -1, 1));
        Check.refuses("10: barrels 1001", Check.ARGUMENT, Scenes::busy, y -> y.oil(0, 0, 1001, 1));
        Check.refuses("10: price -1", Check.ARGUMENT, Scenes::busy, y -> y.oil(0, 0, 1, -1));
        Check.refuses("10: price 10001", Check.ARGUMENT, Scenes::busy, y -> y.oil(0, 0, 1, 10001));
        for (int big : BIG) {
            Check.refuses("10: month " + big, Check.INDEX, Scenes::busy, y -> y.oil(0, big, big, big));
            Check.refuses("10: barrels " + big, Check.ARGUMENT, Scenes::busy, y -> y.oil(0, 0, big, big));
        }
        Check.refuses("10: ahead of the unit", Check.STATE, Scenes::busy, y -> y.oil(1, 0, 1, 1));
        Check.refuses("10: barrels ahead of the unit", Check.ARGUMENT, Scenes::busy, y -> y.oil(1, 0, 1001, 1));
        Check.refuses("10: month ahead of barrels", Check.INDEX, Scenes::busy, y -> y.oil(1, 3, 1001, 1));
    }

    private static void cost() {
        Divisionorder x = Scenes.one();
        x.well(0);
        x.pass(1);
        Check.same("11: first", x.cost(0, 0, 1), 1);
        Check.same("11: added up", x.cost(0, 0, 999999), 1000000);
        Check.same("11: other well", x.cost(1, 0, 5), 5);
        Check.same("11: other month", x.cost(0, 1, 7), 7);
        Check.same("11: owed", x.due(0, 0, 0), -1000005);
        for (int times = 2; times <= 10; times++) {
            Check.same("11: more", x.cost(0, 0, 1000000), times * 1000000);
        }
        Check.same("11: too much", Check.answer(x, y -> y.cost(0, 0, 1)), Check.STATE);
        Check.same("11: not of the other well", x.cost(1, 0, 1000000), 1000005);
        Check.same("11: not of the other month", x.cost(0, 1, 1000000), 1000007);
        Check.same("11: owed in all", x.due(0, 0, 0), -11000005);
    }

    private static void costWrong() {
        Check.refuses("11: well 2", Check.INDEX, Scenes::busy, y -> y.cost(2, 2, 1));
        Check.refuses("11: well 6", Check.INDEX, Scenes::fullOfWells, y -> y.cost(6, 2, 1));
        Check.refuses("11: well -1", Check.INDEX, Scenes::busy, y -> y.cost(-1, 2, 1));
        Check.refuses("11: month 3", Check.INDEX, Scenes::busy, y -> y.cost(0, 3, 1));
        Check.refuses("11: month -1", Check.INDEX, Scenes::busy, y -> y.cost(0, -1, 1));
        Check.refuses("11: cents 0", Check.ARGUMENT, Scenes::busy, y -> y.cost(0, 0, 0));
        Check.refuses("11: cents -1", Check.ARGUMENT, Scenes::busy, y -> y.cost(0, 0, -1));
        Check.refuses("11: cents 1000001", Check.ARGUMENT, Scenes::busy, y -> y.cost(0, 0, 1000001));
        Check.refuses("11: ahead of the unit", Check.STATE, Scenes::busy, y -> y.cost(1, 0, 1));
        Check.refuses("11: cents ahead of the unit", Check.ARGUMENT, Scenes::busy, y -> y.cost(1, 0, 0));
        Check.refuses("11: month ahead of cents", Check.INDEX, Scenes::busy, y -> y.cost(1, 3, 0));
        Check.refuses("11: too much", Check.STATE, Scenes::fullOfCosts, y -> y.cost(0, 2, 1));
        Check.refuses("11: cents ahead of too much", Check.ARGUMENT, Scenes::fullOfCosts,
                y -> y.cost(0, 2, 1000001));
    }

    private static void revenues(Divisionorder x, String what, int... due) {
        for (int month = 0; month < due.length; month++) {
            Check.same("12: " + what + ", month " + month, x.revenue(0, month), due[month]);
        }
    }

    private static void tax() {
        Divisionorder x = Scenes.one();
        x.pass(4);
        for (int month = 0; month <= 4; month++) {
            x.oil(0, month, 19, 101);
        }
        revenues(x, "none", 1919, 1919, 1919, 1919, 1919);
        Check.same("12: from 1 on", x.tax(10, 1), 0);
        revenues(x, "from 1 on", 1919, 1728, 1728, 1728, 1728);
        Check.same("12: from 3 on", x.tax(50, 3), 10);
        revenues(x, "from 3 on", 1919, 1728, 1728, 960, 960);
        Check.same("12: up to the next one", x.tax(1, 2), 10);
        revenues(x, "up to the next one", 1919, 1728, 1900, 960, 960);
        Check.same("12: the last one counts", x.tax(0, 3), 50);
        revenues(x, "the last one counts", 1919, 1728, 1900, 1919, 1919);
        Check.same("12: it is told, though it is 0", x.tax(20, 2), 1);
        revenues(x, "it is told, though it is 0", 1919, 1728, 1536, 1919, 1919);
        Check.same("12: ahead", x.tax(3, 0), 0);
        Check.same("12: told ahead", x.tax(3, 0), 3);
        x.pass(1);
        Check.same("12: from then on", x.tax(5, 5), 0);
    }

    private static void taxWrong() {
        Check.refuses("12: month 3", Check.INDEX, Scenes::busy, y -> y.tax(1, 3));
        Check.refuses("12: month -1", Check.INDEX, Scenes::busy, y -> y.tax(1, -1));
        Check.refuses("12: hundredths -1", Check.ARGUMENT, Scenes::busy, y -> y.tax(-1, 0));
        Check.refuses("12: hundredths 51", Check.ARGUMENT, Scenes::busy, y -> y.tax(51, 0));
        Check.refuses("12: month ahead of hundredths", Check.INDEX, Scenes::busy, y -> y.tax(51, 3));
    }

    private static void consent() {
        Divisionorder x = Scenes.three();
        x.tract(10, 0);
        x.unit(2);
        for (int owner = 0; owner < 10; owner++) {
            Check.same("13: at first", x.consent(0, owner, true), true);
        }
        x.cost(0, 0, 1000);
        x.pass(1);
        x.cost(0, 1, 1000);
        Check.same("13: not any more", x.consent(0, 2, false), true);
        Check.same("13: still not", x.consent(0, 2, false), false);
        Check.same("13: in the other unit", x.consent(1, 2, true), true);
        Check.same("13: the other owner", x.consent(0, 3, true), true);
        Check.same("13: not ahead", x.balance(0, 0, 2), 0);
        Check.same("13: from now on", x.balance(0, 1, 2), 600);
        x.pass(1);
        x.cost(0, 2, 1000);
        Check.same("13: further on", x.balance(0, 2, 2), 1200);
        Check.same("13: again", x.consent(0, 2, true), false);
        Check.same("13: is carried for its balance", x.balance(0, 2, 2), 1200);
        Check.same("13: did so then", x.balance(0, 1, 2), 600);
        Check.same("13: does", x.consent(0, 2, true), true);
    }

    private static void consentWrong() {
        Check.refuses("13: unit 2", Check.INDEX, Scenes::busy, y -> y.consent(2, 0, false));
        Check.refuses("13: unit 3", Check.INDEX, Scenes::fullOfUnits, y -> y.consent(3, 0, false));
        Check.refuses("13: unit -1", Check.INDEX, Scenes::busy, y -> y.consent(-1, 0, false));
        Check.refuses("13: owner 10", Check.INDEX, Scenes::busy, y -> y.consent(0, 10, false));
        Check.refuses("13: owner -1", Check.INDEX, Scenes::busy, y -> y.consent(0, -1, false));
        for (int big : BIG) {
            Check.refuses("13: unit " + big, Check.INDEX, Scenes::busy, y -> y.consent(big, 0, false));
            Check.refuses("13: owner " + big, Check.INDEX, Scenes::busy, y -> y.consent(0, big, false));
        }
    }

    private static void penalty() {
        Divisionorder x = Scenes.three();
        x.cost(0, 0, 101);
        x.consent(0, 2, false);
        x.pass(1);
        Check.same("14: at first", x.balance(0, 0, 2), 60);
        Check.same("14: 100", x.penalty(100), 300);
        Check.same("14: balance by 100", x.balance(0, 0, 2), 20);
        Check.same("14: 500", x.penalty(500), 100);
        Check.same("14: balance by 500", x.balance(0, 0, 2), 100);
        Check.same("14: 109", x.penalty(109), 500);
        Check.same("14: balance by 109, rounded down", x.balance(0, 0, 2), 21);
        Check.same("14: balance behind it", x.balance(0, 1, 2), 21);
        Check.same("14: the same", x.penalty(109), 109);
    }

    private static void penaltyWrong() {
        for (int hundredths : new int[] {99, 501, 0, -1, Integer.MIN_VALUE, Integer.MAX_VALUE}) {
            Check.refuses("14: " + hundredths, Check.ARGUMENT, Scenes::busy, y -> y.penalty(hundredths));
        }
    }
}
