/** Promises 20 to 24. */
public final class MoneyTest {
    public static void main(String[] args) {
        suspend();
        least();
        payDay();
        payDayOfCorrections();
        owed();
        paid();
        wrong();
        Check.end("MoneyTest");
    }

    private static void suspend() {
        Divisionorder x = Scenes.three();
        x.oil(0, 0, 10, 100);
        for (int owner = 0; owner < 10; owner++) {
            Check.same("20: at first", x.suspend(owner, false), false);
        }
        Check.same("20: in suspense", x.suspend(1, true), false);
        Check.same("20: still", x.suspend(1, true), true);
        Check.same("20: not the other one", x.suspend(0, false), false);
        Check.same("20: less one", x.payDay(), 500);
        Check.same("20: not paid", x.paid(1), 0);
        Check.same("20: still owed", x.owed(1), 500);
        x.least(1);
        Check.same("20: nothing at all", x.payDay(), 0);
        Check.same("20: not any more", x.suspend(1, false), true);
        Check.same("20: paid late", x.payDay(), 500);
        Check.same("20: paid", x.paid(1), 500);
    }

    private static void least() {
        Divisionorder x = Scenes.three();
        x.oil(0, 0, 1, 333);
        // 99.9, 166.5 and 66.6
        Check.same("21: not below 100", x.payDay(), 266);
        Check.same("21: just 100", x.paid(0), 100);
        Check.same("21: 67", x.owed(2), 67);
        Check.same("21: 68", x.least(68), 100);
        Check.same("21: below it", x.payDay(), 0);
        Check.same("21: 67", x.least(67), 68);
        Check.same("21: just it", x.payDay(), 67);
        Check.same("21: 1", x.least(1), 67);
        Check.same("21: nothing is owed", x.payDay(), 0);
        Check.same("21: 100000", x.least(100000), 1);
        x.oil(0, 0, 100, 2000);
        Check.same("21: owed below it", x.payDay(), 0);
        x.oil(0, 0, 100, 2003);
        Check.same("21: owed behind the cheque", x.owed(1), 99984);
        x.oil(0, 0, 101, 2000);
        Check.same("21: owed above it", x.payDay(), 100834);
    }

    private static void payDay() {
        Divisionorder x = Scenes.three();
        Check.same("22: nothing", x.payDay(), 0);
        x.tract(1, 0);
        x.unit(2);
        x.well(1);
        x.oil(0, 0, 10, 100);
        x.oil(1, 0, 1, 50);
        x.pass(1);
        x.oil(0, 1, 1, 100);
        x.cost(0, 1, 10);
        Check.same("22: all months, all units", x.payDay(), 1140);
        Check.same("22: owner 0", x.paid(0), 377);
        Check.same("22: owner 1", x.paid(1), 545);
        Check.same("22: owner 2", x.paid(2), 218);
        Check.same("22: again", x.payDay(), 0);
        x.cost(0, 0, 100);
        Check.same("22: none below 0", x.payDay(), 0);
        Check.same("22: nothing is taken back", x.paid(1), 545);
    }

    private static void payDayOfCorrections() {
        Divisionorder x = Scenes.one();
        x.oil(0, 0, 100, 100);
        Check.same("22: ahead of the deed", x.payDay(), 10000);
        x.pass(1);
        x.deed(0, 0, 1, 2500, 0);
        Check.same("23: owes", x.owed(0), -2500);
        Check.same("23: is owed", x.owed(1), 2500);
        Check.same("22: the other one", x.payDay(), 2500);
        x.oil(0, 1, 40, 100);
        Check.same("23: less", x.owed(0), 500);
        Check.same("22: what is more", x.payDay(), 1500);
        Check.same("24: in all", x.paid(0), 10500);
        Check.same("24: in all", x.paid(1), 3500);
        x.tax(50, 0);
        Check.same("23: a tax told late", x.owed(0), -5250);
        x.oil(0, 1, 0, 0);
        Check.same("23: oil that was none", x.owed(0), -6750);
    }

    private static void owed() {
        Divisionorder x = Scenes.one();
        x.tract(10, 1);
        x.pass(1);
        x.unit(2);
        x.well(1);
        x.oil(0, 0, 10, 10);
        x.oil(0, 1, 10, 20);
        x.oil(1, 1, 10, 40);
        x.deed(1, 1, 0, 5000, 1);
        Check.same("23: months and units", x.owed(0), 100 + 200 + 200);
        Check.same("23: the other owner", x.owed(1), 200);
        Check.same("23: none", x.owed(2), 0);
        x.cost(0, 1, 1000);
        Check.same("23: below 0", x.owed(0), -500);
        x.pass(1);
        Check.same("23: a month without money", x.owed(0), -500);
        x.cost(0, 2, 1);
        Check.same("23: the month of now", x.owed(0), -501);
    }

    private static void paid() {
        Divisionorder x = Scenes.one();
        x.oil(0, 0, 10, 10);
        Check.same("24: nothing", x.paid(0), 0);
        x.payDay();
        Check.same("24: 100", x.paid(0), 100);
        x.oil(0, 0, 30, 10);
        Check.same("24: still 100", x.paid(0), 100);
        x.payDay();
        Check.same("24: added up", x.paid(0), 300);
        Check.same("24: the other owner", x.paid(1), 0);
    }

    private static void wrong() {
        for (int owner : new int[] {10, -1, Integer.MIN_VALUE, Integer.MAX_VALUE}) {
            Check.refuses("20: suspend " + owner, Check.INDEX, Scenes::busy, y -> y.suspend(owner, true));
            Check.refuses("23: owed " + owner, Check.INDEX, Scenes::busy, y -> y.owed(owner));
            Check.refuses("24: paid " + owner, Check.INDEX, Scenes::busy, y -> y.paid(owner));
        }
        for (int cents : new int[] {0, -1, 100001, Integer.MIN_VALUE, Integer.MAX_VALUE}) {
            Check.refuses("21: least " + cents, Check.ARGUMENT, Scenes::busy, y -> y.least(cents));
        }
    }
}
