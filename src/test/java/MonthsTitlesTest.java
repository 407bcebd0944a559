/** Promises 1 to 5. */
public final class MonthsTitlesTest {
    public static void main(String[] args) {
        newObject();
        pass();
        passWrong();
        tract();
        tractWrong();
        deed();
        deedToldLate();
        deedWrong();
        deedWithoutParts();
        title();
        titleWrong();
        Check.end("MonthsTitlesTest");
    }

    private static void newObject() {
        Divisionorder x = new Divisionorder();
        Check.same("1: title", Check.answer(x, y -> y.title(0, 0, 0)), Check.INDEX);
        Check.same("1: isHeld", Check.answer(x, y -> y.isHeld(0, 0)), Check.INDEX);
        Check.same("1: unit(1)", Check.answer(x, y -> y.unit(1)), Check.ARGUMENT);
        Check.same("1: well(0)", Check.answer(x, y -> y.well(0)), Check.INDEX);
        Check.same("1: oil", Check.answer(x, y -> y.oil(0, 0, 1, 1)), Check.INDEX);
        Check.same("1: revenue", Check.answer(x, y -> y.revenue(0, 0)), Check.INDEX);
        Check.same("1: tax in month 1", Check.answer(x, y -> y.tax(1, 1)), Check.INDEX);
        for (int owner = 0; owner < 10; owner++) {
            Check.same("1: owed", x.owed(owner), 0);
            Check.same("1: paid", x.paid(owner), 0);
            Check.same("1: suspend", x.suspend(owner, false), false);
        }
        Check.same("1: payDay", x.payDay(), 0);
        Check.same("1: tax", x.tax(0, 0), 0);
        Check.same("1: penalty", x.penalty(300), 300);
        Check.same("1: least", x.least(100), 100);
        Check.same("1: pass", x.pass(1), 1);
        Check.same("1: NONE", Divisionorder.NONE, -1);
    }

    private static void pass() {
        Divisionorder x = new Divisionorder();
        Check.same("2: pass(1)", x.pass(1), 1);
        Check.same("2: pass(12)", x.pass(12), 13);
        Check.same("2: pass(12)", x.pass(12), 25);
        Check.same("2: pass(12)", x.pass(12), 37);
        Check.same("2: pass(12)", x.pass(12), 49);
        Check.same("2: to 61", Check.answer(x, y -> y.pass(12)), Check.STATE);
        Check.same("2: to 60", x.pass(11), 60);
        Check.same("2: behind 60", Check.answer(x, y -> y.pass(1)), Check.STATE);
        Check.same("2: behind 60, 0 months", Check.answer(x, y -> y.pass(0)), Check.ARGUMENT);
        Check.same("2: behind 60, 13 months", Check.answer(x, y -> y.pass(13)), Check.ARGUMENT);
    }

    private static void passWrong() {
        for (int months : new int[] {0, 13, -1, Integer.MIN_VALUE, Integer.MAX_VALUE}) {
            Check.refuses("2: pass(" + months + ")", Check.ARGUMENT, Scenes::busy, y -> y.pass(months));
        }
        Check.refuses("2: pass(12) in 50", Check.STATE, () -> Scenes.busyLater(48), y -> y.pass(12));
    }

    private static void tract() {
        Divisionorder x = new Divisionorder();
        x.pass(3);
        for (int tract = 0; tract < 8; tract++) {
            Check.same("3: tract", x.tract(tract == 0 ? 1 : 1000, 9 - tract), tract);
        }
        for (int tract = 0; tract < 8; tract++) {
            for (int owner = 0; owner < 10; owner++) {
                Check.same("3: all of it", x.title(tract, owner, tract % 4), owner == 9 - tract ? 10000 : 0);
            }
        }
    }

    private static void tractWrong() {
        Check.refuses("3: owner 10", Check.INDEX, Scenes::busy, y -> y.tract(1, 10));
        Check.refuses("3: owner -1", Check.INDEX, Scenes::busy, y -> y.tract(1, -1));
        Check.refuses("3: acres 0", Check.ARGUMENT, Scenes::busy, y -> y.tract(0, 0));
        Check.refuses("3: acres 1001", Check.ARGUMENT, Scenes::busy, y -> y.tract(1001, 0));
        Check.refuses("3: acres -1", Check.ARGUMENT, Scenes::busy, y -> y.tract(-1, 0));
        Check.refuses("3: owner ahead of acres", Check.INDEX, Scenes::busy, y -> y.tract(0, 10));
        Check.refuses("3: nine", Check.STATE, Scenes::fullOfTracts, y -> y.tract(1, 0));
        Check.refuses("3: owner ahead of nine", Check.INDEX, Scenes::fullOfTracts, y -> y.tract(1, 10));
        Check.refuses("3: acres ahead of nine", Check.ARGUMENT, Scenes::fullOfTracts, y -> y.tract(1001, 0));
    }

    private static void deed() {
        Divisionorder x = new Divisionorder();
        x.tract(5, 0);
        x.tract(5, 0);
        x.pass(4);
        Check.same("4: now", x.deed(0, 0, 1, 4000, 4), 6000);
        Check.same("4: gone by", x.deed(0, 0, 2, 6000, 2), 0);
        Check.same("4: the other tract", x.deed(1, 0, 9, 10000, 0), 0);
        Check.same("4: from one who bought", x.deed(0, 1, 3, 1, 4), 3999);
        Check.same("4: back", x.deed(1, 9, 0, 10000, 4), 0);
    }

    private static void deedToldLate() {
        Divisionorder x = new Divisionorder();
        x.tract(5, 0);
        x.pass(4);
        x.deed(0, 0, 1, 7000, 3);
        // In month 0 there are 10000, but from month 3 on only 3000 are left.
        Check.same("4: too many behind it", Check.answer(x, y -> y.deed(0, 0, 2, 3001, 0)), Check.STATE);
        Check.same("4: just as many", x.deed(0, 0, 2, 3000, 0), 0);
        Check.same("4: bought later", Check.answer(x, y -> y.deed(0, 1, 2, 1, 2)), Check.STATE);
        Check.same("4: left now, not then", x.deed(0, 1, 2, 1000, 3), 6000);
        x.pass(1);
        x.deed(0, 1, 0, 6000, 5);
        x.deed(0, 2, 3, 2500, 5);
        Check.same("4: too many in the month of now alone", Check.answer(x, y -> y.deed(0, 2, 1, 2000, 3)), Check.STATE);
        // Some come back later: the month with the least counts.
        Check.same("4: between", Check.answer(x, y -> y.deed(0, 0, 3, 1, 0)), Check.STATE);
        Check.same("4: when back", x.deed(0, 0, 3, 1, 5), 5999);
    }

    private static void deedWrong() {
        Check.refuses("4: tract 2", Check.INDEX, Scenes::busy, y -> y.deed(2, 0, 1, 1, 0));
        Check.refuses("4: tract 8", Check.INDEX, Scenes::fullOfTracts, y -> y.deed(8, 0, 1, 1, 0));
        Check.refuses("4: tract -1", Check.INDEX, Scenes::busy, y -> y.deed(-1, 0, 1, 1, 0));
        Check.refuses("4: from 10", Check.INDEX, Scenes::busy, y -> y.deed(0, 10, 1, 1, 0));
        Check.refuses("4: from -1", Check.INDEX, Scenes::busy, y -> y.deed(0, -1, 1, 1, 0));
        Check.refuses("4: to 10", Check.INDEX, Scenes::busy, y -> y.deed(0, 0, 10, 1, 0));
        Check.refuses("4: to -1", Check.INDEX, Scenes::busy, y -> y.deed(0, 0, -1, 1, 0));
        Check.refuses("4: month 3", Check.INDEX, Scenes::busy, y -> y.deed(0, 0, 1, 1, 3));
        Check.refuses("4: month -1", Check.INDEX, Scenes::busy, y -> y.deed(0, 0, 1, 1, -1));
        Check.refuses("4: the same", Check.ARGUMENT, Scenes::busy, y -> y.deed(0, 0, 0, 1, 0));
        Check.refuses("4: parts 0", Check.ARGUMENT, Scenes::busy, y -> y.deed(0, 0, 1, 0, 0));
        Check.refuses("4: parts 10001", Check.ARGUMENT, Scenes::busy, y -> y.deed(0, 0, 1, 10001, 0));
        Check.refuses("4: month ahead of parts", Check.INDEX, Scenes::busy, y -> y.deed(0, 0, 0, 0, 3));
    }

    private static void deedWithoutParts() {
        Check.refuses("4: one too many", Check.STATE, Scenes::busy, y -> y.deed(0, 0, 1, 3001, 0));
        Check.refuses("4: none", Check.STATE, Scenes::busy, y -> y.deed(0, 9, 1, 1, 0));
        Check.refuses("4: too many later", Check.STATE, Scenes::busy, y -> y.deed(1, 0, 3, 6668, 0));
        Check.refuses("4: forty-one", Check.STATE, Scenes::fullOfDeeds, y -> y.deed(0, 0, 1, 1, 2));
        Check.refuses("4: month ahead of forty-one", Check.INDEX, Scenes::fullOfDeeds, y -> y.deed(0, 0, 1, 1, 3));
        Check.refuses("4: parts ahead of forty-one", Check.ARGUMENT, Scenes::fullOfDeeds,
                y -> y.deed(0, 0, 1, 0, 2));
    }

    private static void title() {
        Divisionorder x = new Divisionorder();
        x.tract(5, 4);
        x.pass(3);
        x.tract(6, 5);
        x.deed(0, 4, 5, 2500, 1);
        x.deed(0, 5, 6, 500, 3);
        long[][] due = {{10000, 0, 0}, {7500, 2500, 0}, {7500, 2500, 0}, {7500, 2000, 500}};
        for (int month = 0; month <= 3; month++) {
            for (int owner = 4; owner <= 6; owner++) {
                Check.same("5: title of " + owner + " in " + month, x.title(0, owner, month), due[month][owner - 4]);
            }
            Check.same("5: the other tract", x.title(1, 5, month), 10000);
        }
        x.pass(12);
        Check.same("5: from then on", x.title(0, 5, 15), 2000);
        x.deed(0, 4, 9, 7500, 2);
        Check.same("5: told late, ahead", x.title(0, 4, 1), 7500);
        Check.same("5: told late", x.title(0, 4, 2), 0);
        Check.same("5: told late, behind", x.title(0, 9, 15), 7500);
    }

    private static void titleWrong() {
        Check.refuses("5: tract 2", Check.INDEX, Scenes::busy, y -> y.title(2, 0, 0));
        Check.refuses("5: tract 8", Check.INDEX, Scenes::fullOfTracts, y -> y.title(8, 0, 0));
        Check.refuses("5: tract -1", Check.INDEX, Scenes::busy, y -> y.title(-1, 0, 0));
        Check.refuses("5: owner 10", Check.INDEX, Scenes::busy, y -> y.title(0, 10, 0));
        Check.refuses("5: owner -1", Check.INDEX, Scenes::busy, y -> y.title(0, -1, 0));
        Check.refuses("5: month 3", Check.INDEX, Scenes::busy, y -> y.title(0, 0, 3));
        Check.refuses("5: month -1", Check.INDEX, Scenes::busy, y -> y.title(0, 0, -1));
    }
}
