/** What the terms say of decks, consent, dues and money: each sentence at its bounds. */
final class TermsMoneyBounds {
    private static final String TERMS = "Terms";

    private final Document doc;

    TermsMoneyBounds(Document doc) {
        this.doc = doc;
    }

    void all() {
        decks();
        deckOrder();
        consent();
        carried();
        eachMonth();
        costs();
        penalty();
        revenue();
        withheld();
        dues();
        owed();
        payDay();
        constants();
    }

    /** Owner 2 has a balance of 60 as month 1 begins, and does not consent. */
    private static Divisionorder carriedTwo() {
        Divisionorder x = Scenes.three();
        x.consent(0, 2, false);
        x.cost(0, 0, 100);
        x.pass(1);
        return x;
    }

    private void decks() {
        doc.test(TERMS, "The deck of a unit in a month has", () -> {
            Divisionorder x = new Divisionorder();
            x.tract(3, 0);
            x.tract(1000, 8);
            x.deed(0, 0, 1, 6667, 0);
            x.lease(0, 0, 2, 333, 9);
            x.lease(0, 9, 3, 500, 9);
            x.unit(1);
            // Of 30000000 the royalty is 3329667, the lessee's 6669333, the other owner's 20001000.
            Rows.royalties(x, 0, 0, 11098890);
            Rows.workings(x, 0, 0, 0, 66670000, 22231110);
            x.deed(0, 0, 1, 3333, 0);
            Rows.royalties(x, 0, 0);
            Rows.workings(x, 0, 0, 0, 100000000);
            x.deed(0, 1, 0, 10000, 0);
            x.lease(0, 0, 4, 500, 9);
            Rows.royalties(x, 0, 0, 33300000);
            Rows.workings(x, 0, 0, 0, 0, 66700000);
            deckOfEachMonth();
        });
        doc.test(TERMS, "Weights of one owner are added up", () -> {
            Divisionorder x = new Divisionorder();
            x.tract(1, 0);
            x.tract(1, 0);
            x.tract(1, 1);
            x.unit(7);
            x.well(0);
            x.oil(0, 0, 1, 2);
            // 1.33 and 0.67; tract by tract they would be three times 0.67.
            Rows.dues(x, 0, 0, 1, 1);
            x.lease(0, 0, 1, 500, 9);
            x.lease(1, 0, 1, 250, 9);
            Rows.royalties(x, 0, 0, 25000000);
            Rows.workings(x, 0, 0, 0, 75000000);
            x.lease(2, 1, 0, 100, 9);
            Rows.royalties(x, 0, 0, 25000000, 3333333);
            Rows.workings(x, 0, 0, 30000000, 41666667);
        });
    }

    private static void deckOfEachMonth() {
        Divisionorder x = Scenes.one();
        x.pass(2);
        x.deed(0, 0, 1, 2500, 1);
        x.deed(0, 0, 1, 2500, 2);
        x.deed(0, 0, 2, 5000, 2);
        x.lease(0, 0, 3, 500, 1);
        Rows.workings(x, 0, 0, 100000000);
        Rows.workings(x, 0, 1, 75000000, 25000000);
        // Owner 0 has nothing left, and what is leased is nothing.
        Rows.workings(x, 0, 2, 0, 50000000, 50000000);
        Rows.royalties(x, 0, 2);
    }

    private void deckOrder() {
        doc.test(TERMS, "In the order of a deck come the royalties", () -> {
            Divisionorder x = new Divisionorder();
            x.tract(1, 9);
            x.deed(0, 9, 3, 5000, 0);
            x.lease(0, 9, 0, 500, 9);
            x.lease(0, 3, 1, 500, 9);
            x.unit(1);
            x.well(0);
            // Royalties of 3 and 9, working interests of 0 and 1, all the same.
            x.oil(0, 0, 1, 1);
            Rows.dues(x, 0, 0, 0, 0, 0, 1);
            x.oil(0, 0, 1, 2);
            Rows.dues(x, 0, 0, 0, 0, 0, 1, 0, 0, 0, 0, 0, 1);
            x.oil(0, 0, 1, 3);
            Rows.dues(x, 0, 0, 1, 0, 0, 1, 0, 0, 0, 0, 0, 1);
            x.oil(0, 0, 1, 5);
            Rows.dues(x, 0, 0, 1, 1, 0, 2, 0, 0, 0, 0, 0, 1);
        });
    }

    private void consent() {
        doc.test(TERMS, "An owner may consent in a unit, or not", () -> {
            Divisionorder x = Scenes.three();
            x.tract(1, 0);
            x.unit(2);
            x.pass(2);
            for (int owner = 0; owner < 10; owner++) {
                Check.same("at first", x.consent(0, owner, true), true);
            }
            x.cost(0, 1, 1000);
            x.cost(0, 2, 1000);
            Check.same("not any more", x.consent(0, 2, false), true);
            Check.same("in the other unit", x.consent(1, 2, true), true);
            Check.same("ahead of now", x.balance(0, 1, 2), 0);
            Check.same("now", x.balance(0, 2, 2), 600);
            Check.same("told again", x.consent(0, 2, true), false);
            Check.same("as if it had not been told", x.balance(0, 2, 2), 0);
            x.consent(0, 2, false);
            x.pass(1);
            x.cost(0, 3, 1000);
            Check.same("from then on", x.balance(0, 3, 2), 1200);
            x.pass(12);
            Check.same("a year later", x.consent(0, 2, false), false);
        });
    }

    private void carried() {
        doc.test(TERMS, "A working interest is carried in a month, if", () -> {
            Divisionorder x = Scenes.three();
            x.penalty(100);
            x.consent(0, 2, false);
            x.cost(0, 0, 5);
            // 1.5, 2.5 and 1; by the first two 1.875 and 3.125.
            Rows.dues(x, 0, 0, -2, -3);
            Rows.balances(x, 0, 0, 0, 0, 1);
            x.pass(1);
            x.consent(0, 2, true);
            x.oil(0, 1, 1, 10);
            // Carried for its one cent, which comes to owner 1.
            Rows.dues(x, 0, 1, 3, 6, 1);
            Rows.balances(x, 0, 1);
            x.pass(1);
            x.oil(0, 2, 1, 10);
            x.cost(0, 2, 20);
            Rows.dues(x, 0, 2, -3, -5, -2);
            Rows.balances(x, 0, 2);
            allWereSo();
            oneAlone();
            allButOneWithoutInterest();
        });
    }

    private static void allWereSo() {
        Divisionorder x = carriedTwo();
        Rows.dues(x, 0, 0, -38, -62);
        x.consent(0, 0, false);
        x.consent(0, 1, false);
        x.consent(0, 2, true);
        x.cost(0, 1, 10);
        x.oil(0, 1, 10, 10);
        // Two do not consent, and one has a balance: none is carried.
        Rows.dues(x, 0, 1, 27, 45, 18);
        Rows.balances(x, 0, 1, 0, 0, 60);
        x.consent(0, 1, true);
        // Costs 3, 5 and 2, of which 1 bears all; revenue 30, 50 and 20, of which 9 and 20 are withheld.
        Rows.dues(x, 0, 1, 21, 69, 0);
        Rows.balances(x, 0, 1, 0, 0, 46);
    }

    private static void oneAlone() {
        Divisionorder x = Scenes.one();
        x.consent(0, 0, false);
        x.cost(0, 0, 100);
        x.oil(0, 0, 1, 30);
        Rows.dues(x, 0, 0, -70);
        Rows.balances(x, 0, 0);
    }

    private static void allButOneWithoutInterest() {
        Divisionorder x = Scenes.three();
        x.lease(0, 0, 1, 500, 9);
        x.consent(0, 1, false);
        x.consent(0, 2, false);
        x.cost(0, 0, 85);
        // Working interests of 65 and 20; owner 0 consents, but has a royalty alone.
        Rows.dues(x, 0, 0, 0, -65, -20);
        x.consent(0, 0, false);
        Rows.dues(x, 0, 0, 0, -65, -20);
        Rows.balances(x, 0, 0);
        x.consent(0, 2, true);
        Rows.dues(x, 0, 0, 0, 0, -85);
        Rows.balances(x, 0, 0, 0, 195);
    }

    private void eachMonth() {
        doc.test(TERMS, "For a unit, in each month from that in which it was told:", () -> {
            Divisionorder x = new Divisionorder();
            x.tract(10, 0);
            x.deed(0, 0, 1, 5000, 0);
            x.tract(10, 0);
            x.deed(1, 0, 1, 5000, 0);
            x.unit(1);
            x.well(0);
            x.pass(3);
            x.unit(2);
            x.well(1);
            x.consent(1, 1, false);
            Check.same("ahead of it", Check.answer(x, y -> y.cost(1, 2, 100)), Check.STATE);
            Check.same("ahead of it", Check.answer(x, y -> y.due(1, 2, 0)), Check.INDEX);
            x.cost(1, 3, 100);
            x.cost(0, 3, 100);
            Rows.dues(x, 1, 3, -100);
            Rows.balances(x, 1, 3, 0, 150);
            Rows.dues(x, 0, 3, -50, -50);
            Rows.balances(x, 0, 3);
            Rows.dues(x, 0, 0);
            // Nothing more is told, and the balance goes on.
            x.pass(1);
            Rows.balances(x, 1, 4, 0, 150);
            x.pass(12);
            Rows.balances(x, 1, 15, 0, 150);
            Rows.dues(x, 1, 16);
            Rows.balances(x, 1, 16, 0, 150);
        });
    }

    private void costs() {
        doc.test(TERMS, "The costs are parted by all working interests.", () -> {
            Divisionorder x = Scenes.three();
            x.lease(0, 0, 9, 500, 9);
            x.cost(0, 0, 1);
            // The royalty is of no matter: 0.18, 0.59 and 0.24.
            Rows.dues(x, 0, 0, 0, -1);
            x.cost(0, 0, 849);
            Rows.dues(x, 0, 0, 0, -500, -200, 0, 0, 0, 0, 0, 0, -150);
            x.consent(0, 1, false);
            x.consent(0, 9, false);
            // Each part is that of all of them, though owner 2 alone owes.
            Rows.balances(x, 0, 0, 0, 1500, 0, 0, 0, 0, 0, 0, 0, 450);
        });
        doc.test(TERMS, "The costs are parted anew by those that are not carried", () -> {
            Divisionorder x = Scenes.three();
            x.consent(0, 2, false);
            x.cost(0, 0, 101);
            // 37.875 and 63.125
            Rows.dues(x, 0, 0, -38, -63);
            x.consent(0, 0, false);
            Rows.dues(x, 0, 0, 0, -101);
            x.consent(0, 1, false);
            Rows.dues(x, 0, 0, -30, -51, -20);
            Divisionorder y = Scenes.one();
            for (int well = 1; well < 6; well++) {
                y.well(0);
            }
            for (int call = 0; call < 60; call++) {
                y.cost(call % 6, 0, 1000000);
            }
            y.deed(0, 0, 1, 9999, 0);
            y.consent(0, 1, false);
            Rows.dues(y, 0, 0, -60000000);
        });
    }

    private void penalty() {
        doc.test(TERMS, "What comes to one that is carried, times the penalty", () -> {
            Divisionorder x = Scenes.three();
            x.consent(0, 2, false);
            x.cost(0, 0, 2);
            // 0.6, 1 and 0.4: nothing comes to owner 2.
            Rows.balances(x, 0, 0);
            x.cost(0, 0, 99);
            Rows.balances(x, 0, 0, 0, 0, 60);
            x.pass(1);
            x.cost(0, 1, 101);
            x.penalty(109);
            // 21.8 each, rounded down by itself.
            Rows.balances(x, 0, 0, 0, 0, 21);
            Rows.balances(x, 0, 1, 0, 0, 42);
            x.penalty(100);
            Rows.balances(x, 0, 1, 0, 0, 40);
            x.penalty(500);
            Rows.balances(x, 0, 1, 0, 0, 200);
        });
    }

    private void revenue() {
        doc.test(TERMS, "The revenue is parted by the deck.", () -> {
            Divisionorder x = Scenes.three();
            x.lease(0, 1, 4, 200, 9);
            x.oil(0, 0, 1, 100);
            Rows.dues(x, 0, 0, 30, 10, 20, 0, 40);
            x.tax(50, 0);
            Rows.dues(x, 0, 0, 15, 5, 10, 0, 20);
            x.oil(0, 0, 1, 0);
            Rows.dues(x, 0, 0);
            x.oil(0, 0, 0, 10000);
            Rows.dues(x, 0, 0);
        });
    }

    private void withheld() {
        doc.test(TERMS, "Of what comes to a carried working interest", () -> {
            Divisionorder x = carriedTwo();
            x.oil(0, 1, 1, 300);
            // Just its balance: 60 to the others, by halves.
            Rows.dues(x, 0, 1, 90 + 23, 150 + 37, 0);
            Rows.balances(x, 0, 1);
            x.oil(0, 1, 1, 295);
            // 88.5, 147.5 and 59: one less; 22.125 and 36.875.
            Rows.dues(x, 0, 1, 89 + 22, 147 + 37, 0);
            Rows.balances(x, 0, 1, 0, 0, 1);
            x.oil(0, 1, 1, 305);
            // 91.5, 152.5 and 61: one more than it.
            Rows.dues(x, 0, 1, 92 + 23, 152 + 37, 1);
            Rows.balances(x, 0, 1);
            x.cost(0, 1, 5);
            // 1.5, 2.5 and 1: three more are in its balance; 22.875 and 38.125 of 61, costs 1.875 and 3.125.
            Rows.dues(x, 0, 1, 92 + 23 - 2, 152 + 38 - 3, 0);
            Rows.balances(x, 0, 1, 0, 0, 2);
            x.oil(0, 1, 0, 0);
            Rows.dues(x, 0, 1, -2, -3);
            Rows.balances(x, 0, 1, 0, 0, 63);
            withheldOfSeveral();
        });
    }

    private static void withheldOfSeveral() {
        Divisionorder x = Scenes.three();
        x.lease(0, 2, 0, 500, 9);
        x.consent(0, 1, false);
        x.consent(0, 2, false);
        x.cost(0, 0, 90);
        x.oil(0, 0, 1, 300);
        // Of the costs 40 and 50: three times 50 are withheld, but nothing of the royalty, whose owner does not consent.
        Rows.dues(x, 0, 0, 120 + 150 - 90, 0, 30);
        Rows.balances(x, 0, 0);
        Divisionorder y = Scenes.three();
        y.consent(0, 0, false);
        y.consent(0, 2, false);
        y.cost(0, 0, 100);
        y.oil(0, 0, 1, 310);
        // 93, 155 and 62: 90 and 60 are withheld.
        Rows.dues(y, 0, 0, 3, 155 + 150 - 100, 2);
        Rows.balances(y, 0, 0);
    }

    private void dues() {
        doc.test(TERMS, "The due of an owner in a unit and a month", () -> {
            Divisionorder x = Scenes.three();
            x.lease(0, 1, 0, 200, 9);
            x.oil(0, 0, 1, 100);
            // A royalty of 10, working interests of 70 and 20.
            Rows.dues(x, 0, 0, 70, 10, 20);
            x.cost(0, 0, 90);
            Rows.dues(x, 0, 0, 0, 10, 0);
            x.cost(0, 0, 9);
            Rows.dues(x, 0, 0, -7, 10, -2);
            x.lease(0, 0, 1, 500, 9);
            // Royalties of 15 and 10, working interests of 40, 15 and 20; of the costs 52.8, 19.8 and 26.4.
            Rows.dues(x, 0, 0, 15 + 40 - 53, 10 + 15 - 20, 20 - 26);
        });
    }

    private void owed() {
        doc.test(TERMS, "What an owner is owed are all dues of months up to that of now", () -> {
            Divisionorder x = Scenes.one();
            x.tract(1, 0);
            x.pass(1);
            x.unit(2);
            x.well(1);
            Rows.owed(x);
            x.oil(0, 0, 1, 100);
            x.oil(0, 1, 1, 50);
            x.oil(1, 1, 1, 7);
            Check.same("of both months and units", x.owed(0), 157);
            x.payDay();
            Check.same("less what was paid", x.owed(0), 0);
            x.oil(1, 1, 1, 6);
            Check.same("below 0", x.owed(0), -1);
            Check.same("not paid", x.payDay(), 0);
            x.pass(1);
            x.oil(0, 2, 1, 1);
            Check.same("in the next month", x.owed(0), 0);
            x.oil(0, 2, 1, 2);
            Check.same("above 0", x.owed(0), 1);
        });
    }

    private void payDay() {
        doc.test(TERMS, "At a pay day each owner who is not in suspense", () -> {
            Divisionorder x = Scenes.three();
            x.oil(0, 0, 1, 198);
            // 59.4, 99 and 39.6
            Check.same("below 100", x.payDay(), 0);
            x.oil(0, 0, 1, 200);
            x.suspend(1, true);
            Check.same("in suspense", x.payDay(), 0);
            x.suspend(1, false);
            Check.same("just 100", x.payDay(), 100);
            Rows.paid(x, 0, 100);
            x.least(41);
            Check.same("60", x.payDay(), 60);
            x.least(40);
            Check.same("just 40", x.payDay(), 40);
            x.least(1);
            Check.same("nothing is owed", x.payDay(), 0);
            x.oil(0, 0, 1, 202);
            // 60.6, 101 and 40.4
            Check.same("just 1", x.payDay(), 2);
            Rows.paid(x, 61, 101, 40);
            x.least(100000);
            x.well(0);
            x.oil(0, 0, 500, 1000);
            x.oil(1, 0, 1, 195);
            // 150058.5, 250097.5 and 100039, of which 61, 101 and 40 are paid.
            Check.same("one less than 100000", x.payDay(), 149998 + 249996);
            Rows.owed(x, 0, 0, 99999);
            x.oil(1, 0, 1, 200);
            Check.same("just 100000", x.payDay(), 100000);
            Rows.owed(x, 1, 3);
        });
    }

    private void constants() {
        doc.test(TERMS, "The constants: `NONE = -1`: None.", () -> {
            try {
                Check.same("NONE", Divisionorder.class.getField("NONE").getInt(null), -1);
            } catch (ReflectiveOperationException e) {
                Check.same("NONE", e, -1);
            }
        });
    }
}
