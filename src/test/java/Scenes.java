/** Objects from which tests start. */
final class Scenes {
    private Scenes() {
    }

    /** One tract of 10 acres, owner 0 with 3000 parts, 1 with 5000, 2 with 2000, in a unit with one well. */
    static Divisionorder three() {
        Divisionorder x = new Divisionorder();
        x.tract(10, 0);
        x.deed(0, 0, 1, 5000, 0);
        x.deed(0, 0, 2, 2000, 0);
        x.unit(1);
        x.well(0);
        return x;
    }

    /** One tract, owner 0 with all of it, in a unit with one well. */
    static Divisionorder one() {
        Divisionorder x = new Divisionorder();
        x.tract(10, 0);
        x.unit(1);
        x.well(0);
        return x;
    }

    /** Month 2, with something of everything: two tracts, each in a unit, the second one told in month 1. */
    static Divisionorder busy() {
        Divisionorder x = three();
        x.lease(0, 1, 3, 200, 1);
        x.tract(20, 0);
        x.oil(0, 0, 100, 77);
        x.cost(0, 0, 5001);
        x.consent(0, 2, false);
        x.pass(1);
        x.unit(2);
        x.well(1);
        x.lease(1, 0, 2, 125, 36);
        x.deed(1, 0, 1, 3333, 1);
        x.consent(1, 1, false);
        x.oil(1, 1, 50, 99);
        x.cost(1, 1, 1234);
        x.tax(5, 1);
        x.payDay();
        x.pass(1);
        x.oil(0, 2, 30, 1001);
        x.cost(0, 2, 777);
        x.tax(7, 2);
        x.penalty(250);
        x.suspend(3, true);
        x.least(50);
        return x;
    }

    static Divisionorder busyLater(int months) {
        Divisionorder x = busy();
        for (int left = months; left > 0; left -= 12) {
            x.pass(Math.min(left, 12));
        }
        return x;
    }

    static Divisionorder inTheLastMonth() {
        return busyLater(58);
    }

    /** One whose dues were asked for, and are at hand therefore. */
    static Divisionorder busyAndAsked() {
        Divisionorder x = busy();
        x.owed(0);
        return x;
    }

    static Divisionorder fullOfTracts() {
        Divisionorder x = busy();
        for (int tract = 2; tract < 8; tract++) {
            x.tract(1000, 9);
        }
        return x;
    }

    static Divisionorder fullOfDeeds() {
        Divisionorder x = busy();
        for (int deed = 3; deed < 40; deed++) {
            x.deed(0, 1, 2, 1, 2);
        }
        return x;
    }

    static Divisionorder fullOfLeases() {
        Divisionorder x = busy();
        for (int lease = 2; lease < 16; lease++) {
            x.lease(1, 1, 4, 0, 1);
        }
        return x;
    }

    static Divisionorder fullOfUnits() {
        Divisionorder x = busy();
        x.tract(1, 0);
        x.tract(1, 0);
        x.unit(4);
        return x;
    }

    static Divisionorder fullOfWells() {
        Divisionorder x = busy();
        for (int well = 2; well < 6; well++) {
            x.well(well % 2);
        }
        return x;
    }

    /** The well 0 has all the costs in month 2 that it may have. */
    static Divisionorder fullOfCosts() {
        Divisionorder x = busy();
        for (int times = 0; times < 9; times++) {
            x.cost(0, 2, 1000000);
        }
        x.cost(0, 2, 999223);
        return x;
    }
}
