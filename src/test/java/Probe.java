/** Asks an object for nearly all that it knows, in less than 450 calls; the object is used up by that. */
final class Probe {
    private static final int OWNERS = 10;
    private static final int MONTHS = 3;

    private final Divisionorder x;
    private final StringBuilder text = new StringBuilder();

    private Probe(Divisionorder x) {
        this.x = x;
    }

    static String answers(Divisionorder x) {
        Probe probe = new Probe(x);
        probe.askUnits();
        probe.askOwners();
        probe.askTitlesAndLeases();
        probe.tellWells();
        probe.tellSettings();
        probe.tellNumbers();
        return probe.text.toString();
    }

    private void put(String what, Check.Call call) {
        text.append(what).append(' ').append(Check.answer(x, call)).append('\n');
    }

    private void askUnits() {
        for (int u = 0; u < 2; u++) {
            for (int m = 0; m < MONTHS; m++) {
                int unit = u;
                int month = m;
                put("revenue " + u + " " + m, y -> y.revenue(unit, month));
                put("agrees " + u + " " + m, y -> y.agrees(unit, month));
                for (int o = 0; o < OWNERS; o++) {
                    int owner = o;
                    String of = u + " " + m + " " + o;
                    put("royalty " + of, y -> y.interest(unit, month, owner, true));
                    put("working " + of, y -> y.interest(unit, month, owner, false));
                    put("due " + of, y -> y.due(unit, month, owner));
                    put("balance " + of, y -> y.balance(unit, month, owner));
                }
            }
        }
    }

    private void askOwners() {
        for (int o = 0; o < OWNERS; o++) {
            int owner = o;
            put("owed " + o, y -> y.owed(owner));
            put("paid " + o, y -> y.paid(owner));
        }
    }

    private void askTitlesAndLeases() {
        for (int t = 0; t < 2; t++) {
            for (int o = 0; o < 4; o++) {
                for (int m = 0; m < MONTHS; m++) {
                    int tract = t;
                    int owner = o;
                    int month = m;
                    put("title " + t + " " + o + " " + m, y -> y.title(tract, owner, month));
                }
            }
            for (int m = 0; m < MONTHS; m++) {
                int lease = t;
                int month = m;
                put("isHeld " + t + " " + m, y -> y.isHeld(lease, month));
            }
        }
    }

    private void tellWells() {
        for (int w = 0; w < 2; w++) {
            for (int m = 0; m < MONTHS; m++) {
                int well = w;
                int month = m;
                put("oil " + w + " " + m, y -> y.oil(well, month, 0, 0));
                put("cost " + w + " " + m, y -> y.cost(well, month, 1));
            }
        }
    }

    private void tellSettings() {
        for (int m = MONTHS - 1; m >= 0; m--) {
            int month = m;
            put("tax " + m, y -> y.tax(0, month));
        }
        for (int o = 0; o < OWNERS; o++) {
            int owner = o;
            put("consent 0 " + o, y -> y.consent(0, owner, true));
            put("consent 1 " + o, y -> y.consent(1, owner, true));
            put("suspend " + o, y -> y.suspend(owner, false));
        }
        put("penalty", y -> y.penalty(100));
        put("least", y -> y.least(1));
        put("payDay", y -> y.payDay());
    }

    private void tellNumbers() {
        put("tract", y -> y.tract(1, 0));
        put("lease", y -> y.lease(0, 0, 1, 0, 1));
        put("deed", y -> y.deed(0, 0, 1, 1, 0));
        put("well", y -> y.well(0));
        for (int t = 0; t < 8; t++) {
            int bit = 1 << t;
            put("unit " + t, y -> y.unit(bit));
        }
        put("pass", y -> y.pass(1));
    }
}
