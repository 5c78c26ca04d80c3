/** The edges that promises 7 to 16, and the terms that they stand on, name: one method for each sentence. */
public final class GivingEdgesTest {
    private static final int NONE = TowerAppeal.NONE;
    private static final int RANGE = TowerAppeal.RANGE;
    private static final int FULL = TowerAppeal.FULL;
    private static final int STATE = TowerAppeal.STATE;
    private static final Check CHECK = new Check("edges of giving");

    public static void main(String[] args) {
        giversAre0To29();
        monthsOfADeclaration();
        fromNotAboveTo();
        theLatestDeclarationHolds();
        namelessIfItWasOtherwise();
        penceOfADue();
        firstIsTheClocksMonthOrLater();
        everySoManyMonths();
        soManyDues();
        duesBehindTheLastMonth();
        sixtyPledges();
        noSuchPledge();
        changedPence();
        changedBehindTheClocksMonth();
        changedWhereNothingIsFilled();
        changeOfALapsedOne();
        penceOfASum();
        moreThanIsNotFilled();
        moreThanIsNotFilledWhenTakenUp();
        payOnALapsedOne();
        sumsAreAtMost250();
        refusalsAheadOfFull();
        theEarliestFirst();
        overdueUpToTheClocksMonth();
        lapseOrMore();
        lapseOrMoreByALaterTrust();
        whatALapseTakes();
        whatIsTakenUp();
        takenUpInTheMonthOfADue();
        takenUpOnce();
        matchedUpToTill();
        matchedToTheCap();
        matchedIsCut();
        matchedOfTheLargest();
        taxInTheDeclaredMonths();
        taxIsCut();
        taxIsClaimedOnce();
        withTax0NoneIsClaimed();
        taxOfTheLargest();
        aboutAnother();
        aboutTheFirstLapse();
        aboutTheNextDue();
        giverOfAnotherWhat();
        notClaimedForTax();
        allStateWhenStopped();
        CHECK.finish();
    }

    private static void is(String call, long got, long want) {
        CHECK.is(call, got, want);
    }

    private static TowerAppeal made(String text) {
        return CHECK.made(text);
    }

    /** A new object with one PLEDGE, of GIVER 0. */
    private static TowerAppeal pledged(String text, int pence, int first, int every, int dues) {
        TowerAppeal x = made(text);
        is("pledge", x.pledge(0, pence, first, every, dues), 0);
        return x;
    }

    private static void giversAre0To29() {
        CHECK.under(7, "GIVERS 0 .. 29.");
        CHECK.edges("declare, g", 0, 29, RANGE, g -> new TowerAppeal().declare(g, 0, 119), g -> 1);
        CHECK.edges("nameless, g", 0, 29, RANGE, g -> new TowerAppeal().nameless(g, true), g -> 1);
        CHECK.edges("pledge, g", 0, 29, RANGE, g -> new TowerAppeal().pledge(g, 1, 0, 1, 1), g -> 0);
        CHECK.edges("gift, g", 0, 29, RANGE, g -> new TowerAppeal().gift(g, 1), g -> 0);
        CHECK.edges("giver, g", 0, 29, RANGE, g -> {
            TowerAppeal x = new TowerAppeal();
            x.gift(g, 5);
            return x.giver(g, 0);
        }, g -> 5);
        CHECK.edges("about, g", 0, 29, NONE, g -> {
            TowerAppeal x = new TowerAppeal();
            x.pledge(g, 1, 0, 1, 1);
            return x.about(0, 0);
        }, g -> g);
    }

    private static void monthsOfADeclaration() {
        CHECK.under(7, "A GIVER's DECLARATION is from .. to (months 0 .. 119");
        CHECK.edges("from", 0, 119, RANGE, from -> new TowerAppeal().declare(0, from, 119), from -> 1);
        CHECK.edges("to", 0, 119, RANGE, to -> new TowerAppeal().declare(0, 0, to), to -> 1);
        CHECK.edges("from and to", 0, 119, RANGE, both -> new TowerAppeal().declare(0, both, both), both -> 1);
        CHECK.edges("from, answered", 0, 119, NONE, from -> {
            TowerAppeal x = new TowerAppeal();
            x.declare(0, from, 119);
            return x.giver(0, 2);
        }, from -> from);
        CHECK.edges("to, answered", 0, 119, NONE, to -> {
            TowerAppeal x = new TowerAppeal();
            x.declare(0, 0, to);
            return x.giver(0, 3);
        }, to -> to);
    }

    private static void fromNotAboveTo() {
        CHECK.under(7, "from not above to): 1; RANGE.");
        int[] tos = {0, 1, 50, 118, 119};
        for (int to : tos) {
            is("a month below " + to, new TowerAppeal().declare(0, to - 1, to), to == 0 ? RANGE : 1);
            is("the same, " + to, new TowerAppeal().declare(0, to, to), 1);
            is("a month above " + to, new TowerAppeal().declare(0, to + 1, to), RANGE);
        }
        TowerAppeal x = new TowerAppeal();
        x.declare(0, 3, 4);
        is("refused", x.declare(0, 6, 5), RANGE);
        is("from", x.giver(0, 2), 3);
        is("to", x.giver(0, 3), 4);
    }

    private static void theLatestDeclarationHolds() {
        CHECK.under(7, "DECLARATIONS: a span of months of a GIVER (the latest one told holds).");
        TowerAppeal x = made("tax 50;");
        x.declare(0, 0, 5);
        x.declare(0, 2, 2);
        x.declare(1, 0, 5);
        for (int month = 0; month < 4; month++) {
            x.gift(0, 200 << 2 * month);
            x.months(1);
        }
        is("of month 2 alone", x.claim(), 100 << 4);
        is("from", x.giver(0, 2), 2);
        is("to", x.giver(0, 3), 2);
        x.declare(0, 3, 119);
        is("of month 3", x.claim(), 100 << 6);
    }

    private static void namelessIfItWasOtherwise() {
        CHECK.under(8, "A GIVER wishes no STONE, or does: 1 if it was otherwise, else 0; RANGE.");
        TowerAppeal x = new TowerAppeal();
        boolean[] wishes = {false, true, true, false, false, true};
        int[] due = {0, 1, 0, 1, 0, 1};
        for (int i = 0; i < wishes.length; i++) {
            is("nameless(7, " + wishes[i] + ")", x.nameless(7, wishes[i]), due[i]);
            is("giver(7, 4)", x.giver(7, 4), wishes[i] ? 1 : 0);
            is("giver(6, 4)", x.giver(6, 4), 0);
            is("giver(8, 4)", x.giver(8, 4), 0);
        }
        is("another", x.nameless(8, true), 1);
        CHECK.edges("nameless, g", 0, 29, RANGE, g -> new TowerAppeal().nameless(g, false), g -> 0);
    }

    private static void penceOfADue() {
        CHECK.under(9, "each due the same pence (1 .. 100000)");
        CHECK.edges("pledge, pence", 1, 100000, RANGE, pence -> new TowerAppeal().pledge(0, pence, 0, 1, 1), pence -> 0);
        CHECK.edges("about 4", 1, 100000, NONE, pence -> {
            TowerAppeal x = new TowerAppeal();
            x.pledge(0, pence, 0, 1, 84);
            return x.about(0, 4);
        }, pence -> 84 * pence);
    }

    private static void firstIsTheClocksMonthOrLater() {
        CHECK.under(9, "the first due in a month (the CLOCK's or later)");
        int[] clocks = {0, 1, 50, 118, 119};
        for (int clock : clocks) {
            CHECK.edges("pledge in " + clock + ", first", clock, 119, RANGE, first -> {
                TowerAppeal x = new TowerAppeal();
                Check.pass(x, clock);
                return x.pledge(0, 1, first, 1, 1);
            }, first -> 0);
        }
    }

    private static void everySoManyMonths() {
        CHECK.under(9, "then every so many months (1 .. 12)");
        CHECK.edges("pledge, every", 1, 12, RANGE, every -> new TowerAppeal().pledge(0, 1, 0, every, 84), every -> 0);
        CHECK.edges("the second due", 1, 12, NONE, every -> {
            TowerAppeal x = new TowerAppeal();
            x.pledge(0, 1, 0, every, 2);
            return x.about(0, 7);
        }, every -> every);
    }

    private static void soManyDues() {
        CHECK.under(9, "so many dues (1 .. 84)");
        CHECK.edges("pledge, dues", 1, 84, RANGE, dues -> new TowerAppeal().pledge(0, 1, 0, 1, dues), dues -> 0);
        CHECK.edges("about 4", 1, 84, NONE, dues -> {
            TowerAppeal x = new TowerAppeal();
            x.pledge(0, 3, 0, 1, dues);
            return x.about(0, 4);
        }, dues -> 3 * dues);
    }

    private static void duesBehindTheLastMonth() {
        CHECK.under(9, "of which those behind month 119 don't come.");
        // first, every, dues, and how many come
        int[][] cases = {
            {119, 1, 1, 1}, {119, 1, 2, 1}, {119, 12, 84, 1}, {118, 1, 1, 1}, {118, 1, 2, 2}, {118, 1, 3, 2},
            {118, 2, 2, 1}, {117, 2, 2, 2}, {116, 2, 2, 2}, {106, 12, 2, 2}, {107, 12, 2, 2}, {108, 12, 2, 1},
            {35, 1, 84, 84}, {36, 1, 84, 84}, {37, 1, 84, 83}, {38, 1, 84, 82}, {0, 12, 9, 9}, {0, 12, 10, 10},
            {0, 12, 11, 10}, {11, 12, 10, 10}, {12, 12, 10, 9}, {0, 2, 84, 60}, {1, 2, 84, 60}, {2, 2, 84, 59},
        };
        for (int[] one : cases) {
            TowerAppeal x = pledged("", 7, one[0], one[1], one[2]);
            String what = one[2] + " dues, every " + one[1] + ", from " + one[0];
            is("about 4, " + what, x.about(0, 4), 7 * one[3]);
            is("a penny too much, " + what, x.pay(0, 7 * one[3] + 1), RANGE);
            is("all, " + what, x.pay(0, 7 * one[3]), 0);
        }
        // Dues in months 95, 107 and 119, and one that would be in 131.
        TowerAppeal y = pledged("lapse 1;", 7, 95, 12, 4);
        Check.pass(y, 95);
        is("next, in 95", y.about(0, 7), 107);
        y.pay(0, 21);
        Check.pass(y, 24);
        is("next, in 119", y.about(0, 7), NONE);
        TowerAppeal z = pledged("lapse 1;", 7, 95, 12, 4);
        Check.pass(z, 96);
        is("takeUp", z.takeUp(0), 2);
        is("not filled", z.about(0, 4), 14);
    }

    private static void sixtyPledges() {
        CHECK.under(9, "PLEDGES, at most 60, numbered from 0: its number; RANGE; FULL.");
        TowerAppeal x = new TowerAppeal();
        for (int p = 0; p < 60; p++) {
            is("none such yet", x.about(p, 0), NONE);
            is("pledge", x.pledge(p % 30, 1 + p, 0, 1, 1), p);
            is("count(8)", x.count(8), p + 1);
        }
        is("the 61st", x.pledge(0, 1, 0, 1, 1), FULL);
        is("the 61st, with a wrong number", x.pledge(0, 1, 0, 1, 85), RANGE);
        is("count(8)", x.count(8), 60);
        is("about(59, 1)", x.about(59, 1), 60);
        is("about(60, 1)", x.about(60, 1), NONE);
        x.stop();
        is("the 61st, stopped", x.pledge(0, 1, 0, 1, 1), STATE);
    }

    private static void noSuchPledge() {
        CHECK.under(10, "RANGE: no such PLEDGE");
        int[] sizes = {1, 2, 60};
        for (int size : sizes) {
            CHECK.edges("change, p", 0, size - 1, RANGE, p -> withPledges(size).change(p, 1), p -> 1);
            CHECK.edges("pay, p", 0, size - 1, RANGE, p -> withPledges(size).pay(p, 1), p -> 0);
            CHECK.edges("takeUp, p", 0, size - 1, RANGE, p -> withPledges(size).takeUp(p), p -> STATE);
            CHECK.edges("about, p", 0, size - 1, NONE, p -> withPledges(size).about(p, 0), p -> p % 30);
        }
        int[] none = {Integer.MIN_VALUE, -1, 0, 1, Integer.MAX_VALUE};
        for (int p : none) {
            is("change, none at all", new TowerAppeal().change(p, 1), RANGE);
            is("pay, none at all", new TowerAppeal().pay(p, 1), RANGE);
            is("takeUp, none at all", new TowerAppeal().takeUp(p), RANGE);
            is("about, none at all", new TowerAppeal().about(p, 0), NONE);
        }
    }

    private static TowerAppeal withPledges(int size) {
        TowerAppeal x = new TowerAppeal();
        for (int p = 0; p < size; p++) {
            x.pledge(p % 30, 10, 0, 1, 84);
        }
        return x;
    }

    private static void changedPence() {
        CHECK.under(10, "A PLEDGE is CHANGED: 1; RANGE: no such PLEDGE, pence");
        CHECK.edges("change, pence", 1, 100000, RANGE, pence -> pledged("", 50, 0, 1, 84).change(0, pence), pence -> 1);
        CHECK.edges("about 4, all but the first", 1, 100000, 50 * 84, pence -> {
            TowerAppeal x = pledged("", 50, 0, 1, 84);
            x.change(0, pence);
            return x.about(0, 4);
        }, pence -> 50 + 83 * pence);
        CHECK.edges("about 1", 1, 100000, 50, pence -> {
            TowerAppeal x = pledged("", 50, 0, 1, 84);
            x.change(0, pence);
            return x.about(0, 1);
        }, pence -> pence);
    }

    private static void changedBehindTheClocksMonth() {
        CHECK.under(10, "A PLEDGE CHANGED has another pence for its dues behind the CLOCK's month");
        for (int clock = 0; clock <= 6; clock++) {
            TowerAppeal x = pledged("lapse 12;", 100, 0, 1, 6);
            Check.pass(x, clock);
            is("change in " + clock, x.change(0, 7), 1);
            int kept = Math.min(6, clock + 1);
            is("about 4 in " + clock, x.about(0, 4), 100 * kept + 7 * (6 - kept));
            is("about 1 in " + clock, x.about(0, 1), 7);
        }
        for (int first = 1; first <= 119; first++) {
            TowerAppeal y = pledged("", 100, first, 1, 1);
            is("change, far ahead of " + first, y.change(0, 7), 1);
            is("about 4", y.about(0, 4), 7);
        }
    }

    private static void changedWhereNothingIsFilled() {
        CHECK.under(10, "in which nothing is filled yet.");
        int[] paid = {0, 1, 99, 100, 101, 199, 200, 201, 299, 300, 301, 399, 400};
        for (int pence : paid) {
            TowerAppeal x = pledged("", 100, 1, 1, 4);
            if (pence > 0) {
                x.pay(0, pence);
            }
            int touched = (pence + 99) / 100;
            x.change(0, 1000);
            is("about 4, " + pence + " paid", x.about(0, 4), 100 * touched - pence + 1000 * (4 - touched));
            is("about 3, " + pence + " paid", x.about(0, 3), pence);
            x.change(0, 2);
            is("about 4, " + pence + " paid, changed again", x.about(0, 4), 100 * touched - pence + 2 * (4 - touched));
        }
    }

    private static void changeOfALapsedOne() {
        CHECK.under(10, "STATE: it is LAPSED.");
        TowerAppeal x = pledged("lapse 2;", 100, 0, 1, 9);
        x.months(1);
        is("overdue, not lapsed", x.change(0, 10), 1);
        x.months(1);
        is("lapsed", x.change(0, 20), STATE);
        is("lapsed, no such pence", x.change(0, 0), RANGE);
        is("lapsed, no such pence", x.change(0, 100001), RANGE);
        is("refused", x.about(0, 1), 10);
        is("taken up", x.takeUp(0), 6);
        is("refused", x.about(0, 4), 60);
        is("taken up", x.change(0, 20), 1);
        is("about 4", x.about(0, 4), 120);
    }

    private static void penceOfASum() {
        CHECK.under(12, "Sums that come are 1 .. 5000000 pence each");
        CHECK.edges("gift, pence", 1, 5000000, RANGE, pence -> new TowerAppeal().gift(0, pence), pence -> 0);
        CHECK.edges("pay, pence", 1, 5000000, RANGE, pence -> pledged("", 100000, 0, 1, 84).pay(0, pence), pence -> 0);
        CHECK.edges("coin of a gift", 1, 5000000, 0, pence -> {
            TowerAppeal x = new TowerAppeal();
            x.gift(0, pence);
            return x.count(1);
        }, pence -> pence);
        CHECK.edges("coin of what is paid", 1, 5000000, 0, pence -> {
            TowerAppeal x = pledged("", 100000, 0, 1, 84);
            x.pay(0, pence);
            return x.count(1);
        }, pence -> pence);
    }

    private static void moreThanIsNotFilled() {
        CHECK.under(11, "or more than is not filled of all its dues");
        int[] alreadyPaid = {0, 1, 99, 100, 101, 298, 299, 300};
        for (int paid : alreadyPaid) {
            for (int more = -1; more <= 1; more++) {
                TowerAppeal x = pledged("", 100, 0, 12, 3);
                if (paid > 0) {
                    x.pay(0, paid);
                }
                int pence = 300 - paid + more;
                boolean comes = pence >= 1 && more <= 0;
                is("pay " + pence + " behind " + paid, x.pay(0, pence), comes ? 0 : RANGE);
                is("filled", x.about(0, 3), comes ? paid + pence : paid);
                is("coin", x.count(1), comes ? paid + pence : paid);
            }
        }
        TowerAppeal y = pledged("lapse 12;", 100, 0, 1, 3);
        y.months(5);
        is("overdue, too much", y.pay(0, 301), RANGE);
        is("overdue, all", y.pay(0, 300), 0);
    }

    private static void moreThanIsNotFilledWhenTakenUp() {
        CHECK.under(11, "or more than is not filled of all its dues");
        for (int more = -1; more <= 1; more++) {
            TowerAppeal x = pledged("lapse 1;", 100, 0, 1, 5);
            x.pay(0, 50);
            x.months(2);
            is("months 3 and 4", x.takeUp(0), 2);
            is("pay", x.pay(0, 200 + more), more <= 0 ? 0 : RANGE);
            is("filled", x.about(0, 3), more <= 0 ? 250 + more : 50);
        }
    }

    private static void payOnALapsedOne() {
        CHECK.under(11, "STATE: it is LAPSED");
        TowerAppeal x = pledged("lapse 1;", 100, 0, 1, 3);
        is("not yet", x.pay(0, 99), 0);
        x.months(1);
        is("lapsed, a penny", x.pay(0, 1), STATE);
        is("lapsed, all that there was", x.pay(0, 201), STATE);
        is("lapsed, more than there was", x.pay(0, 202), STATE);
        is("lapsed, the most", x.pay(0, 5000000), STATE);
        CHECK.edges("lapsed, pence", 1, 5000000, RANGE, pence -> {
            TowerAppeal y = pledged("lapse 1;", 100, 0, 1, 3);
            y.months(1);
            return y.pay(0, pence);
        }, pence -> STATE);
        is("sums", x.count(11), 1);
        is("coin", x.count(1), 99);
        is("taken up", x.takeUp(0), 1);
        is("pay", x.pay(0, 100), 0);
    }

    private static void sumsAreAtMost250() {
        CHECK.under(12, "at most 250 SUMS come in all.");
        TowerAppeal x = made("match 100 999 119;");
        x.pledge(1, 100000, 0, 1, 84);
        for (int i = 1; i <= 125; i++) {
            is("gift", x.gift(0, 10), 10);
            is("pay", x.pay(0, 10), 10);
        }
        is("sums", x.count(11), 250);
        is("gift, the 251st", x.gift(0, 10), FULL);
        is("pay, the 251st", x.pay(0, 10), FULL);
        is("sums", x.count(11), 250);
        is("pence", x.count(3), 2500);
        is("matched", x.count(4), 2500);
        is("coin", x.count(1), 5000);
        is("filled", x.about(0, 3), 1250);
        is("gave", x.giver(0, 0), 1250);
        TowerAppeal y = new TowerAppeal();
        for (int i = 1; i <= 249; i++) {
            y.gift(0, 1);
        }
        is("sums", y.count(11), 249);
        is("the 250th", y.gift(0, 1), 0);
        is("the 251st", y.gift(0, 1), FULL);
        is("the 251st, of another", y.gift(1, 1), FULL);
    }

    private static void refusalsAheadOfFull() {
        CHECK.under(11, "RANGE: no such PLEDGE, pence, or more than is not filled of all its dues; STATE: it is LAPSED; FULL.");
        TowerAppeal x = made("lapse 2;");
        x.pledge(0, 10, 1, 1, 3);
        x.pledge(0, 10, 0, 1, 3);
        for (int i = 1; i <= 250; i++) {
            x.gift(0, 1);
        }
        x.months(2);
        is("full", x.pay(0, 30), FULL);
        is("no such pledge", x.pay(2, 1), RANGE);
        is("no such sum", x.pay(0, 0), RANGE);
        is("too much", x.pay(0, 31), RANGE);
        is("lapsed", x.pay(1, 1), STATE);
        is("gift, full", x.gift(0, 1), FULL);
        is("gift, no such giver", x.gift(30, 1), RANGE);
        is("gift, no such sum", x.gift(0, 5000001), RANGE);
        x.stop();
        is("stopped", x.pay(0, 30), STATE);
        is("gift, stopped", x.gift(0, 1), STATE);
    }

    private static void theEarliestFirst() {
        CHECK.under(11, "What is paid on a PLEDGE fills its dues, the earliest first, those to come too.");
        // What is paid in month 1, and how many of the dues in months 0 to 3 aren't filled in each of months 1 to 4.
        int[][] cases = {
            {99, 2, 3, 4, 4}, {100, 1, 2, 3, 3}, {101, 1, 2, 3, 3}, {199, 1, 2, 3, 3}, {200, 0, 1, 2, 2},
            {299, 0, 1, 2, 2}, {300, 0, 0, 1, 1}, {301, 0, 0, 1, 1}, {399, 0, 0, 1, 1}, {400, 0, 0, 0, 0},
        };
        for (int[] one : cases) {
            TowerAppeal x = pledged("lapse 12;", 100, 0, 1, 4);
            x.months(1);
            x.pay(0, one[0]);
            for (int month = 1; month <= 4; month++) {
                is(one[0] + " paid, overdue in " + month, x.about(0, 2), one[month]);
                x.months(1);
            }
        }
    }

    private static void overdueUpToTheClocksMonth() {
        CHECK.under(15, "dues that are OVERDUE (not filled, up to the CLOCK's month; 0 when LAPSED)");
        TowerAppeal x = pledged("lapse 4;", 100, 2, 3, 4);
        int[] due = {0, 0, 1, 1, 1, 2, 2, 2, 3, 3, 3, 4, 0, 0};
        for (int month = 0; month < due.length; month++) {
            is("overdue in " + month, x.about(0, 2), due[month]);
            is("lapsed in " + month, x.about(0, 5), month >= 12 ? 1 : 0);
            x.months(1);
        }
        TowerAppeal y = pledged("", 100, 0, 1, 2);
        int[] paid = {98, 1, 1, 99, 1};
        int[] left = {1, 1, 0, 0, 0};
        for (int i = 0; i < paid.length; i++) {
            y.pay(0, paid[i]);
            is("overdue", y.about(0, 2), left[i]);
        }
    }

    private static void lapseOrMore() {
        CHECK.under(20, "LAPSED: when a month ends in which lapse or more are OVERDUE");
        for (int lapse = 1; lapse <= 12; lapse++) {
            TowerAppeal x = pledged("lapse " + lapse + ";", 100, 0, 1, 84);
            Check.pass(x, lapse - 1);
            is("one less than " + lapse + " months ended with dues overdue", x.about(0, 5), 0);
            is("overdue", x.about(0, 2), lapse);
            is("count(9)", x.count(9), 0);
            x.months(1);
            is("lapsed, lapse " + lapse, x.about(0, 5), 1);
            is("in", x.about(0, 6), lapse - 1);
            is("count(9)", x.count(9), 1);
        }
        TowerAppeal y = pledged("lapse 2;", 100, 0, 1, 2);
        y.pay(0, 1);
        y.months(1);
        y.pay(0, 98);
        is("99 of the first are filled", y.about(0, 2), 2);
        TowerAppeal z = pledged("lapse 2;", 100, 0, 1, 2);
        z.pay(0, 100);
        z.months(24);
        is("one alone is overdue", z.about(0, 5), 0);
        y.months(1);
        is("lapsed", y.about(0, 5), 1);
    }

    private static void lapseOrMoreByALaterTrust() {
        CHECK.under(20, "LAPSED: when a month ends in which lapse or more are OVERDUE");
        for (int lapse = 3; lapse <= 7; lapse++) {
            TowerAppeal x = pledged("lapse 12;", 100, 0, 1, 5);
            x.months(10);
            is("overdue", x.about(0, 2), 5);
            Check.tell(x, "lapse " + lapse + ";");
            is("no month ended", x.about(0, 5), 0);
            x.months(1);
            is("lapse " + lapse + " of 5 overdue", x.about(0, 5), lapse <= 5 ? 1 : 0);
            is("in", x.about(0, 6), lapse <= 5 ? 10 : NONE);
        }
    }

    private static void whatALapseTakes() {
        CHECK.under(20, "its dues that aren't filled are none any more (nor those to come); what a due was filled with in part stays.");
        int[] paid = {0, 1, 99, 100, 101, 150, 199};
        for (int pence : paid) {
            TowerAppeal x = pledged("lapse 1;", 100, 0, 1, 9);
            if (pence > 0) {
                x.pay(0, pence);
            }
            x.months(3);
            is("lapsed in, " + pence + " paid", x.about(0, 6), pence / 100);
            is("filled", x.about(0, 3), pence);
            is("not filled", x.about(0, 4), 0);
            is("overdue", x.about(0, 2), 0);
            is("next", x.about(0, 7), NONE);
            is("gave", x.giver(0, 0), pence);
            is("coin", x.count(1), pence);
        }
    }

    private static void whatIsTakenUp() {
        CHECK.under(13, "the dues behind the CLOCK's month are there again (as it was told, or CHANGED), the others aren't.");
        for (int clock = 3; clock <= 9; clock++) {
            TowerAppeal x = pledged("lapse 2;", 100, 0, 1, 8);
            x.pay(0, 130);
            x.change(0, 40);
            Check.pass(x, clock);
            int toCome = Math.max(0, 7 - clock);
            is("takeUp in " + clock, x.takeUp(0), toCome);
            is("not filled", x.about(0, 4), 40 * toCome);
            is("filled", x.about(0, 3), 130);
            is("overdue", x.about(0, 2), 0);
            is("lapsed", x.about(0, 5), 0);
            is("lapsed first", x.about(0, 6), 2);
            is("next", x.about(0, 7), toCome > 0 ? clock + 1 : NONE);
            is("count(9)", x.count(9), 0);
        }
    }

    private static void takenUpInTheMonthOfADue() {
        CHECK.under(13, "A LAPSED PLEDGE is TAKEN UP: how many dues it has to come");
        // Dues in months 0, 3, 6, 9; it lapses in month 0.
        int[] toCome = {3, 3, 2, 2, 2, 1, 1, 1, 0, 0};
        for (int clock = 1; clock <= toCome.length; clock++) {
            TowerAppeal x = pledged("lapse 1;", 100, 0, 3, 4);
            Check.pass(x, clock);
            is("takeUp in " + clock, x.takeUp(0), toCome[clock - 1]);
            is("not filled", x.about(0, 4), 100 * toCome[clock - 1]);
        }
    }

    private static void takenUpOnce() {
        CHECK.under(13, "RANGE: no such; STATE: it isn't LAPSED, or was TAKEN UP before.");
        TowerAppeal x = pledged("lapse 2;", 100, 0, 1, 20);
        is("new", x.takeUp(0), STATE);
        x.months(1);
        is("overdue", x.takeUp(0), STATE);
        x.months(1);
        is("no such", x.takeUp(1), RANGE);
        is("no such", x.takeUp(-1), RANGE);
        is("lapsed", x.takeUp(0), 17);
        is("taken up", x.takeUp(0), STATE);
        x.months(2);
        is("two are overdue", x.about(0, 2), 2);
        is("not lapsed", x.about(0, 5), 0);
        x.months(1);
        is("lapsed once more", x.about(0, 5), 1);
        is("taken up before", x.takeUp(0), STATE);
        is("still lapsed", x.about(0, 5), 1);
        is("not filled", x.about(0, 4), 0);
    }

    private static void matchedUpToTill() {
        CHECK.under(12, "MATCHED: of each SUM that comes (on a PLEDGE, or a plain GIFT) in a month up to till");
        int[] tills = {0, 1, 5, 118, 119};
        for (int till : tills) {
            for (int month = Math.max(0, till - 1); month <= Math.min(119, till + 1); month++) {
                TowerAppeal x = made("match 100 999 " + till + ";");
                Check.pass(x, month);
                x.pledge(0, 10, month, 1, 1);
                is("gift in " + month + " till " + till, x.gift(0, 10), month <= till ? 10 : 0);
                is("pay in " + month + " till " + till, x.pay(0, 10), month <= till ? 10 : 0);
                is("coin", x.count(1), month <= till ? 40 : 20);
            }
        }
    }

    private static void matchedToTheCap() {
        CHECK.under(12, "as far as the cap isn't reached (all that was MATCHED so far).");
        int[] firsts = {1, 98, 99, 100, 101, 5000000};
        for (int first : firsts) {
            TowerAppeal x = made("match 100 1 119;");
            x.pledge(1, 100, 0, 1, 1);
            int matched = Math.min(first, 100);
            is("gift of " + first, x.gift(0, first), matched);
            is("pay 1 behind it", x.pay(0, 1), Math.min(1, 100 - matched));
            matched = Math.min(matched + 1, 100);
            is("gift of 100 behind that", x.gift(2, 100), 100 - matched);
            is("a penny behind the cap", x.gift(2, 1), 0);
            is("count(4)", x.count(4), 100);
        }
        is("cap 0", made("match 100 0 119;").gift(0, 100), 0);
        is("hundredths 0", made("match 0 100 119;").gift(0, 5000000), 0);
        TowerAppeal y = made("match 100 2 119;");
        y.gift(0, 150);
        int[] caps = {0, 1, 2, 3};
        int[] due = {0, 0, 50, 100};
        for (int i = 0; i < caps.length; i++) {
            Check.tell(y, "match 100 " + caps[i] + " 119;");
            is("cap " + caps[i] + " behind 150 or more", y.gift(0, 1000), due[i]);
        }
    }

    private static void matchedIsCut() {
        CHECK.under(12, "hundredths and thousandths of a sum are cut to whole pence.");
        // hundredths, pence, matched
        int[][] cases = {
            {1, 99, 0}, {1, 100, 1}, {1, 101, 1}, {1, 199, 1}, {1, 200, 2}, {50, 1, 0}, {50, 2, 1}, {50, 3, 1},
            {99, 1, 0}, {99, 100, 99}, {99, 101, 99}, {99, 102, 100}, {100, 1, 1}, {100, 99, 99}, {33, 3, 0}, {33, 4, 1},
        };
        for (int[] one : cases) {
            TowerAppeal x = made("match " + one[0] + " 999 119;");
            is(one[0] + " hundredths of " + one[1], x.gift(0, one[1]), one[2]);
            is("coin", x.count(1), one[1] + one[2]);
            is("gave", x.giver(0, 0), one[1]);
        }
    }

    private static void matchedOfTheLargest() {
        CHECK.under(12, "hundredths of it, as far as the cap isn't reached");
        TowerAppeal x = made("match 100 999999 119;");
        for (int i = 1; i <= 19; i++) {
            is("gift", x.gift(0, 5000000), 5000000);
        }
        is("the 20th, to the cap", x.gift(0, 5000000), 4999900);
        is("the 21st", x.gift(0, 5000000), 0);
        is("count(4)", x.count(4), 99999900);
        is("99 hundredths of the largest", made("match 99 999999 119;").gift(0, 5000000), 4950000);
    }

    private static void taxInTheDeclaredMonths() {
        CHECK.under(14, "whose GIVER has a DECLARATION with the month in which it came");
        int[][] spans = {{0, 0}, {0, 1}, {1, 1}, {2, 4}, {6, 6}, {7, 119}, {0, 119}, {5, 119}};
        for (int[] span : spans) {
            TowerAppeal x = made("tax 50;");
            int due = 0;
            for (int month = 0; month <= 6; month++) {
                x.gift(0, 2 << month);
                x.gift(1, 1000);
                due += month >= span[0] && month <= span[1] ? 1 << month : 0;
                x.months(1);
            }
            is("without a declaration", x.claim(), 0);
            x.declare(0, span[0], span[1]);
            is("claim, " + span[0] + " .. " + span[1], x.claim(), due);
            is("count(5)", x.count(5), due);
            is("not claimed", x.giver(0, 1), 254 - 2 * due);
            is("not claimed of the other", x.giver(1, 1), 7000);
        }
        TowerAppeal y = made("tax 10;");
        y.declare(29, 119, 119);
        Check.pass(y, 118);
        y.gift(29, 100);
        y.months(1);
        y.gift(29, 1000);
        is("of month 119 alone", y.claim(), 100);
    }

    private static void taxIsCut() {
        CHECK.under(14, "hundredths and thousandths of a sum are cut to whole pence.");
        int[][] cases = {{1, 99, 0}, {1, 100, 1}, {1, 199, 1}, {25, 3, 0}, {25, 4, 1}, {25, 7, 1}, {50, 1, 0}, {50, 2, 1}};
        for (int[] one : cases) {
            TowerAppeal x = made("tax " + one[0] + ";");
            x.declare(0, 0, 119);
            x.gift(0, one[1]);
            x.gift(0, one[1]);
            is(one[0] + " hundredths of twice " + one[1], x.claim(), 2 * one[2]);
            is("claimed", x.giver(0, 1), 0);
            is("coin", x.count(1), 2 * one[1] + 2 * one[2]);
        }
    }

    private static void taxIsClaimedOnce() {
        CHECK.under(14, "of each SUM not claimed yet");
        TowerAppeal x = made("tax 10;match 50 999 119;");
        x.declare(0, 0, 119);
        is("no sums", x.claim(), 0);
        x.gift(0, 1000);
        is("of the sum, not of what is matched", x.claim(), 100);
        is("claimed", x.claim(), 0);
        Check.tell(x, "tax 50;");
        is("claimed, another tax", x.claim(), 0);
        x.declare(0, 0, 0);
        is("claimed, another declaration", x.claim(), 0);
        x.pledge(0, 10, 0, 1, 1);
        x.pay(0, 10);
        is("what is paid on a pledge", x.claim(), 5);
        is("count(5)", x.count(5), 105);
        is("coin", x.count(1), 1000 + 500 + 10 + 105);
    }

    private static void withTax0NoneIsClaimed() {
        CHECK.under(14, "(with tax 0 none is claimed).");
        TowerAppeal x = made("tax 0;");
        x.declare(0, 0, 119);
        x.gift(0, 1000);
        is("tax 0", x.claim(), 0);
        is("not claimed", x.giver(0, 1), 1000);
        Check.tell(x, "tax 1;");
        is("tax 1", x.claim(), 10);
        is("claimed", x.giver(0, 1), 0);
    }

    private static void taxOfTheLargest() {
        CHECK.under(14, "TAX is claimed: what comes.");
        TowerAppeal x = made("tax 50;");
        x.declare(3, 0, 0);
        for (int i = 1; i <= 250; i++) {
            x.gift(3, 5000000);
        }
        is("not claimed", x.giver(3, 1), 1250000000);
        is("claim", x.claim(), 625000000);
        is("count(5)", x.count(5), 625000000);
        is("coin", x.count(1), 1875000000);
        is("count(3)", x.count(3), 1250000000);
        is("gave", x.giver(3, 0), 1250000000);
        is("not claimed", x.giver(3, 1), 0);
    }

    private static void aboutAnother() {
        CHECK.under(15, "NONE when there is none such.");
        int[] fresh = {0, 100, 1, 0, 300, 0, NONE, 5};
        CHECK.edges("about, what", 0, 7, NONE, what -> pledged("", 100, 0, 5, 3).about(0, what), what -> fresh[what]);
        int[] lapsed = {0, 100, 0, 30, 0, 1, 0, NONE};
        CHECK.edges("about, what, lapsed", 0, 7, NONE, what -> {
            TowerAppeal x = pledged("lapse 1;", 100, 0, 5, 3);
            x.pay(0, 30);
            x.months(1);
            return x.about(0, what);
        }, what -> lapsed[what]);
    }

    private static void aboutTheFirstLapse() {
        CHECK.under(15, "6: the month in which it lapsed first (NONE)");
        TowerAppeal x = pledged("lapse 1;", 100, 1, 1, 20);
        x.months(1);
        is("not yet", x.about(0, 6), NONE);
        x.months(1);
        is("lapsed", x.about(0, 6), 1);
        x.months(1);
        is("later", x.about(0, 6), 1);
        x.takeUp(0);
        is("taken up", x.about(0, 6), 1);
        x.months(2);
        is("lapsed once more", x.about(0, 5), 1);
        is("first", x.about(0, 6), 1);
        TowerAppeal y = pledged("lapse 1;", 100, 0, 1, 1);
        y.months(1);
        is("in month 0", y.about(0, 6), 0);
    }

    private static void aboutTheNextDue() {
        CHECK.under(15, "7: the month of its next due behind the CLOCK's (NONE: none, or LAPSED).");
        TowerAppeal x = pledged("lapse 12;", 100, 2, 3, 3);
        int[] next = {2, 2, 5, 5, 5, 8, 8, 8, NONE, NONE};
        for (int month = 0; month < next.length; month++) {
            is("in month " + month, x.about(0, 7), next[month]);
            x.months(1);
        }
        TowerAppeal y = pledged("lapse 1;", 100, 118, 1, 84);
        is("in 0", y.about(0, 7), 118);
        Check.pass(y, 117);
        is("in 117", y.about(0, 7), 118);
        y.months(1);
        is("in 118", y.about(0, 7), 119);
        y.months(1);
        is("lapsed", y.about(0, 7), NONE);
        for (int first = 1; first <= 119; first++) {
            is("far ahead of " + first, pledged("", 100, first, 12, 2).about(0, 7), first);
        }
        TowerAppeal z = pledged("", 100, 118, 1, 84);
        Check.pass(z, 119);
        is("in 119, not lapsed", z.about(0, 5), 0);
        is("in 119, none comes any more", z.about(0, 7), NONE);
    }

    private static void giverOfAnotherWhat() {
        CHECK.under(16, "RANGE: no such GIVER, what.");
        int[] due = {100, 100, 3, 4, 1};
        CHECK.edges("giver, what", 0, 4, RANGE, what -> {
            TowerAppeal x = new TowerAppeal();
            x.gift(5, 100);
            x.declare(5, 3, 4);
            x.nameless(5, true);
            return x.giver(5, what);
        }, what -> due[what]);
        CHECK.edges("giver without anything, what", 0, 4, RANGE, what -> new TowerAppeal().giver(29, what),
                what -> what == 2 || what == 3 ? NONE : 0);
    }

    private static void notClaimedForTax() {
        CHECK.under(16, "What a GIVER gave, what 0: in all, 1: of that not claimed for TAX");
        TowerAppeal x = made("tax 50;");
        x.declare(1, 1, 1);
        for (int month = 0; month <= 2; month++) {
            for (int g = 0; g <= 2; g++) {
                x.gift(g, 10 + 10 * month + g);
            }
            x.months(1);
        }
        is("claim", x.claim(), 10);
        int[] gave = {60, 63, 66};
        int[] left = {60, 42, 66};
        for (int g = 0; g <= 2; g++) {
            is("gave", x.giver(g, 0), gave[g]);
            is("not claimed", x.giver(g, 1), left[g]);
        }
    }

    private static TowerAppeal stoppedOne() {
        TowerAppeal x = made("lapse 1;");
        x.pledge(0, 100, 0, 1, 3);
        x.pledge(0, 100, 1, 1, 3);
        x.gift(0, 100);
        x.months(1);
        is("stop", x.stop(), 100);
        return x;
    }

    private static void allStateWhenStopped() {
        CHECK.under(7, "givers, pledges, sums (all STATE when STOPPED, behind RANGE).");
        CHECK.edges("declare, g", 0, 29, RANGE, g -> stoppedOne().declare(g, 0, 1), g -> STATE);
        CHECK.edges("declare, from", 0, 50, RANGE, from -> stoppedOne().declare(0, from, 50), from -> STATE);
        CHECK.edges("declare, to", 50, 119, RANGE, to -> stoppedOne().declare(0, 50, to), to -> STATE);
        CHECK.edges("nameless, g", 0, 29, RANGE, g -> stoppedOne().nameless(g, true), g -> STATE);
        CHECK.edges("pledge, g", 0, 29, RANGE, g -> stoppedOne().pledge(g, 1, 1, 1, 1), g -> STATE);
        CHECK.edges("pledge, pence", 1, 100000, RANGE, n -> stoppedOne().pledge(0, n, 1, 1, 1), n -> STATE);
        CHECK.edges("pledge, first", 1, 119, RANGE, n -> stoppedOne().pledge(0, 1, n, 1, 1), n -> STATE);
        CHECK.edges("pledge, every", 1, 12, RANGE, n -> stoppedOne().pledge(0, 1, 1, n, 1), n -> STATE);
        CHECK.edges("pledge, dues", 1, 84, RANGE, n -> stoppedOne().pledge(0, 1, 1, 1, n), n -> STATE);
        CHECK.edges("change, p", 0, 1, RANGE, p -> stoppedOne().change(p, 1), p -> STATE);
        CHECK.edges("change, pence", 1, 100000, RANGE, n -> stoppedOne().change(1, n), n -> STATE);
        CHECK.edges("pay, p", 0, 1, RANGE, p -> stoppedOne().pay(p, 1), p -> STATE);
        CHECK.edges("pay, pence", 1, 300, RANGE, n -> stoppedOne().pay(1, n), n -> STATE);
        CHECK.edges("pay, pence on a lapsed one", 1, 5000000, RANGE, n -> stoppedOne().pay(0, n), n -> STATE);
        CHECK.edges("gift, g", 0, 29, RANGE, g -> stoppedOne().gift(g, 1), g -> STATE);
        CHECK.edges("gift, pence", 1, 5000000, RANGE, n -> stoppedOne().gift(0, n), n -> STATE);
        CHECK.edges("takeUp, p", 0, 1, RANGE, p -> stoppedOne().takeUp(p), p -> STATE);
        is("claim", stoppedOne().claim(), STATE);
        CHECK.edges("about, what", 0, 7, STATE, what -> stoppedOne().about(0, what), what -> STATE);
        CHECK.edges("about, p", 0, 1, STATE, p -> stoppedOne().about(p, 0), p -> STATE);
        CHECK.edges("giver, g", 0, 29, RANGE, g -> stoppedOne().giver(g, 0), g -> STATE);
        CHECK.edges("giver, what", 0, 4, RANGE, what -> stoppedOne().giver(0, what), what -> STATE);
    }
}
