/** Rows of answers: of the owners one by one, or of the months from 0 on; owners that are not named are due 0. */
final class Rows {
    private static final int OWNERS = 10;

    private Rows() {
    }

    private static long due(long[] dues, int owner) {
        return owner < dues.length ? dues[owner] : 0;
    }

    static void dues(Divisionorder x, int unit, int month, long... dues) {
        for (int owner = 0; owner < OWNERS; owner++) {
            Check.same("due(" + unit + ", " + month + ", " + owner + ")", x.due(unit, month, owner), due(dues, owner));
        }
        Check.same("agrees(" + unit + ", " + month + ")", x.agrees(unit, month), true);
    }

    static void balances(Divisionorder x, int unit, int month, long... dues) {
        for (int owner = 0; owner < OWNERS; owner++) {
            Check.same("balance(" + unit + ", " + month + ", " + owner + ")", x.balance(unit, month, owner),
                    due(dues, owner));
        }
    }

    static void royalties(Divisionorder x, int unit, int month, long... dues) {
        interests(x, unit, month, true, dues);
    }

    static void workings(Divisionorder x, int unit, int month, long... dues) {
        interests(x, unit, month, false, dues);
    }

    private static void interests(Divisionorder x, int unit, int month, boolean isRoyalty, long[] dues) {
        for (int owner = 0; owner < OWNERS; owner++) {
            Check.same("interest(" + unit + ", " + month + ", " + owner + ", " + isRoyalty + ")",
                    x.interest(unit, month, owner, isRoyalty), due(dues, owner));
        }
    }

    static void titles(Divisionorder x, int tract, int month, long... dues) {
        for (int owner = 0; owner < OWNERS; owner++) {
            Check.same("title(" + tract + ", " + owner + ", " + month + ")", x.title(tract, owner, month),
                    due(dues, owner));
        }
    }

    static void owed(Divisionorder x, long... dues) {
        for (int owner = 0; owner < OWNERS; owner++) {
            Check.same("owed(" + owner + ")", x.owed(owner), due(dues, owner));
        }
    }

    static void paid(Divisionorder x, long... dues) {
        for (int owner = 0; owner < OWNERS; owner++) {
            Check.same("paid(" + owner + ")", x.paid(owner), due(dues, owner));
        }
    }

    static void revenues(Divisionorder x, int unit, int... byMonths) {
        for (int month = 0; month < byMonths.length; month++) {
            Check.same("revenue(" + unit + ", " + month + ")", x.revenue(unit, month), byMonths[month]);
        }
    }

    /** A sign for each month from 0 on: x where it is held. */
    static void held(Divisionorder x, int lease, String byMonths) {
        StringBuilder got = new StringBuilder();
        for (int month = 0; month < byMonths.length(); month++) {
            got.append(x.isHeld(lease, month) ? 'x' : '-');
        }
        Check.same("isHeld(" + lease + ", 0 and on)", got, byMonths);
    }
}
