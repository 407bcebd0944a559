/** Long runs of calls, made from fixed seeds, in each of which the class must answer as {@link PlainModel}. */
public final class PlainModelTest {
    private static final int RUNS = 400;
    private static final int CALLS = 512;

    private interface Asked {
        Object get();
    }

    private final Divisionorder x = new Divisionorder();
    private final PlainModel model = new PlainModel();
    private final int run;
    /** Of so many calls one is told what is wrong. */
    private final int wrongs;
    private final int passes;
    private long seed;

    private PlainModelTest(int run) {
        this.run = run;
        this.seed = run * 7919L + 17;
        this.wrongs = run % 3 == 0 ? 15 : 60;
        this.passes = run % 4 == 0 ? 12 : 2;
    }

    public static void main(String[] args) {
        for (int run = 1; run <= RUNS; run++) {
            new PlainModelTest(run).go();
        }
        Check.end("PlainModelTest");
    }

    private int any(int bound) {
        seed = seed * 6364136223846793005L + 1442695040888963407L;
        return (int) Math.floorMod(seed >>> 33, (long) bound);
    }

    private int from(int low, int high) {
        if (any(wrongs) == 0) {
            int[] wrong = {low - 1, high + 1, Integer.MIN_VALUE, Integer.MAX_VALUE, -low - 1};
            return wrong[any(wrong.length)];
        }
        return low + any(Math.max(1, high - low + 1));
    }

    private int owner() {
        return from(0, run % 2 == 0 ? 9 : 3);
    }

    private int month() {
        return any(3) == 0 ? from(0, model.month) : from(Math.max(0, model.month - 3), model.month);
    }

    private int unit() {
        return from(0, Math.max(0, model.units.size() - 1));
    }

    private int unitMonth(int unit) {
        int start = unit >= 0 && unit < model.units.size() ? model.units.get(unit).start() : 0;
        return from(any(4) == 0 ? start : Math.max(start, model.month - 3), model.month);
    }

    private int tract() {
        return from(0, Math.max(0, model.tracts.size() - 1));
    }

    private int well() {
        return from(0, Math.max(0, model.wells.size() - 1));
    }

    private void go() {
        for (int call = 0; call < CALLS; call++) {
            int kind = call < 20 ? any(9) : any(100);
            if (kind < 9) {
                tellWhatThereIs(kind);
            } else if (kind < 62) {
                tell(kind);
            } else {
                ask(kind);
            }
        }
    }

    private void same(String what, Asked got, Asked due) {
        Check.same("run " + run + ": " + what, answer(got), answer(due));
    }

    private static String answer(Asked asked) {
        try {
            return String.valueOf(asked.get());
        } catch (RuntimeException e) {
            return "throws." + e.getClass().getSimpleName();
        }
    }

    private void tellWhatThereIs(int kind) {
        if (kind < 4) {
            int acres = from(1, any(2) == 0 ? 1000 : 7);
            int owner = owner();
            same("tract", () -> x.tract(acres, owner), () -> model.tract(acres, owner));
        } else if (kind < 7) {
            int bits = any(wrongs) == 0 ? any(Integer.MAX_VALUE) - any(Integer.MAX_VALUE)
                    : 1 << any(8) | 1 << any(8) & any(256);
            same("unit", () -> x.unit(bits), () -> model.unit(bits));
        } else {
            int unit = unit();
            same("well", () -> x.well(unit), () -> model.well(unit));
        }
    }

    private void tell(int kind) {
        if (kind < 25) {
            tellOil();
        } else if (kind < 35) {
            int well = well();
            int month = month();
            int cents = from(1, any(8) == 0 ? 1000000 : 3000);
            same("cost", () -> x.cost(well, month, cents), () -> model.cost(well, month, cents));
        } else if (kind < 42) {
            int months = any(40) == 0 ? from(1, 12) : 1 + any(passes);
            same("pass", () -> x.pass(months), () -> model.pass(months));
        } else if (kind < 48) {
            tellDeedOrLease();
        } else if (kind < 56) {
            int unit = unit();
            int owner = owner();
            boolean is = any(2) == 0;
            same("consent", () -> x.consent(unit, owner, is), () -> model.consent(unit, owner, is));
        } else {
            tellSetting(kind);
        }
    }

    private void tellOil() {
        int well = well();
        int month = month();
        int barrels = any(6) == 0 ? 0 : from(0, any(8) == 0 ? 1000 : 30);
        int price = any(9) == 0 ? 0 : from(0, any(8) == 0 ? 10000 : 300);
        same("oil", () -> x.oil(well, month, barrels, price), () -> model.oil(well, month, barrels, price));
    }

    private void tellDeedOrLease() {
        int tract = tract();
        int one = owner();
        int other = owner();
        if (any(3) > 0) {
            int parts = from(1, any(3) == 0 ? 10000 : 3000);
            int month = month();
            same("deed", () -> x.deed(tract, one, other, parts, month),
                    () -> model.deed(tract, one, other, parts, month));
        } else {
            int royalty = from(0, 500);
            int term = from(1, any(3) == 0 ? 36 : 3);
            same("lease", () -> x.lease(tract, one, other, royalty, term),
                    () -> model.lease(tract, one, other, royalty, term));
        }
    }

    private void tellSetting(int kind) {
        if (kind == 56 || kind == 57) {
            int hundredths = from(0, 50);
            int month = month();
            same("tax", () -> x.tax(hundredths, month), () -> model.tax(hundredths, month));
        } else if (kind == 58) {
            int hundredths = from(100, 500);
            same("penalty", () -> x.penalty(hundredths), () -> model.penalty(hundredths));
        } else if (kind == 59) {
            int owner = owner();
            boolean is = any(2) == 0;
            same("suspend", () -> x.suspend(owner, is), () -> model.suspend(owner, is));
        } else if (kind == 60) {
            int cents = from(1, any(5) == 0 ? 100000 : 500);
            same("least", () -> x.least(cents), () -> model.least(cents));
        } else {
            same("payDay", x::payDay, model::payDay);
        }
    }

    private void ask(int kind) {
        int unit = unit();
        int month = unitMonth(unit);
        int owner = owner();
        boolean is = any(2) == 0;
        if (kind < 68) {
            same("interest", () -> x.interest(unit, month, owner, is), () -> model.interest(unit, month, owner, is));
        } else if (kind < 71) {
            same("revenue", () -> x.revenue(unit, month), () -> model.revenue(unit, month));
        } else if (kind < 79) {
            same("due", () -> x.due(unit, month, owner), () -> model.due(unit, month, owner));
        } else if (kind < 87) {
            same("balance", () -> x.balance(unit, month, owner), () -> model.balance(unit, month, owner));
        } else if (kind < 89) {
            same("agrees", () -> x.agrees(unit, month), () -> model.agrees(unit, month));
        } else if (kind < 93) {
            same("owed", () -> x.owed(owner), () -> model.owed(owner));
        } else if (kind < 95) {
            same("paid", () -> x.paid(owner), () -> model.paid(owner));
        } else {
            askTitleOrLease(owner);
        }
    }

    private void askTitleOrLease(int owner) {
        int month = month();
        if (any(2) == 0) {
            int tract = tract();
            same("title", () -> x.title(tract, owner, month), () -> model.title(tract, owner, month));
        } else {
            int lease = from(0, Math.max(0, model.leases.size() - 1));
            same("isHeld", () -> x.isHeld(lease, month), () -> model.isHeld(lease, month));
        }
    }
}
