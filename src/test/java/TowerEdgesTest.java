/** The edges that promises 17 to 25, and the terms that they stand on, name: one method for each sentence. */
public final class TowerEdgesTest {
    private static final int NONE = TowerAppeal.NONE;
    private static final int RANGE = TowerAppeal.RANGE;
    private static final int FULL = TowerAppeal.FULL;
    private static final int STATE = TowerAppeal.STATE;
    private static final Check CHECK = new Check("edges of the tower");

    public static void main(String[] args) {
        costAndMonthsOfAStage();
        stagesAre0To7();
        stageWhenStopped();
        allPartsAlikeButTheLast();
        theNextStageIsBegun();
        beginIsRefused();
        builtOfAnother();
        monthsAre1To24();
        notBeyond119();
        manyMonthsAreLikeOneByOne();
        noMonthEndsWhenStopped();
        aPartFromCoin();
        aPartFromCoinAndTheLoan();
        aPartWhenTheLoanHasGrown();
        aPartWhenTheLoanIsAboveItsMost();
        onlyTheStageThatRunsIsPaid();
        theLoanGrowsByItsThousandths();
        theLoanGrowsAheadOfItsPart();
        coinPaysBackAsFarAsItGoes();
        sureFor1To84Months();
        sureInTheNextMonths();
        sureIsCut();
        sureIfNoneWasDue();
        sureOfOneThatLapsed();
        sureOfOneTakenUp();
        sureOfTheLargest();
        stonesOfThoseWhoGaveAsMuch();
        stonesBySumsAlone();
        stonesInTheirOrder();
        stonesOfTheNameless();
        theIthStone();
        allIsGivenBackIfThereIsAsMuch();
        elseCoinIsParted();
        nothingIfNoneGave();
        stoppedBefore();
        backAheadOfStop();
        theLargestIsParted();
        countOfOthers();
        countedAtTheEdges();
        CHECK.finish();
    }

    private static void is(String call, long got, long want) {
        CHECK.is(call, got, want);
    }

    private static TowerAppeal made(String text) {
        return CHECK.made(text);
    }

    private static void costAndMonthsOfAStage() {
        CHECK.under(17, "each costs so many pence (1 .. 100000000) in 1 .. 24 months' parts");
        CHECK.edges("stage, cost", 1, 100000000, RANGE, cost -> new TowerAppeal().stage(cost, 1), cost -> 0);
        CHECK.edges("stage, months", 1, 24, RANGE, months -> new TowerAppeal().stage(1, months), months -> 0);
        CHECK.edges("built, cost", 1, 100000000, NONE, cost -> {
            TowerAppeal x = new TowerAppeal();
            x.stage(cost, 24);
            return x.built(0, 0);
        }, cost -> cost);
        CHECK.edges("built, months", 1, 24, NONE, months -> {
            TowerAppeal x = new TowerAppeal();
            x.stage(100000000, months);
            return x.built(0, 1);
        }, months -> months);
    }

    private static void stagesAre0To7() {
        CHECK.under(17, "STAGES 0 .. 7, told in order: its number; FULL: the ninth.");
        TowerAppeal x = new TowerAppeal();
        for (int s = 0; s < 8; s++) {
            is("none such yet", x.built(s, 0), NONE);
            is("stage", x.stage(10 + s, 1 + s), s);
            is("count(10)", x.count(10), s + 1);
            is("cost", x.built(s, 0), 10 + s);
            is("months", x.built(s, 1), 1 + s);
        }
        is("the ninth", x.stage(1, 1), FULL);
        is("the ninth, no such cost", x.stage(0, 1), RANGE);
        is("the ninth, no such months", x.stage(1, 25), RANGE);
        is("count(10)", x.count(10), 8);
        is("built(8, 0)", x.built(8, 0), NONE);
        x.stop();
        is("the ninth, stopped", x.stage(1, 1), STATE);
    }

    private static void stageWhenStopped() {
        CHECK.under(17, "RANGE: cost, months; STATE: STOPPED");
        CHECK.edges("stage, cost", 1, 100000000, RANGE, cost -> stoppedOne().stage(cost, 1), cost -> STATE);
        CHECK.edges("stage, months", 1, 24, RANGE, months -> stoppedOne().stage(1, months), months -> STATE);
        TowerAppeal x = stoppedOne();
        x.stage(1, 1);
        is("count(10)", x.count(10), 0);
    }

    private static TowerAppeal stoppedOne() {
        TowerAppeal x = new TowerAppeal();
        x.stop();
        return x;
    }

    private static void allPartsAlikeButTheLast() {
        CHECK.under(19, "all alike (the whole part), the last one with what is left over.");
        for (int parts = 1; parts <= 24; parts++) {
            int[] costs = {1, parts - 1, parts, parts + 1, 7 * parts - 1, 7 * parts, 7 * parts + 1};
            for (int cost : costs) {
                if (cost > 0) {
                    partsAre(cost, parts);
                }
            }
        }
        partsAre(100000000, 1);
        partsAre(100000000, 24);
        partsAre(99999999, 24);
    }

    private static void partsAre(int cost, int parts) {
        TowerAppeal x = new TowerAppeal();
        for (int left = cost; left > 0; left -= 5000000) {
            x.gift(0, Math.min(left, 5000000));
        }
        x.stage(cost, parts);
        x.begin();
        for (int month = 1; month <= parts; month++) {
            x.months(1);
            int paid = month == parts ? cost : cost / parts * month;
            is("paid of " + cost + " in " + parts + ", " + month + " ended", x.built(0, 3), paid);
            is("count(6)", x.count(6), paid);
            is("coin", x.count(1), cost - paid);
            is("runs or built", x.built(0, 2), month == parts ? 2 : 1);
        }
        x.months(1);
        is("no part more", x.built(0, 3), cost);
        is("paused", x.built(0, 4), 0);
    }

    private static void theNextStageIsBegun() {
        CHECK.under(18, "The next STAGE is begun: its number");
        TowerAppeal x = new TowerAppeal();
        x.gift(0, 100);
        for (int s = 0; s < 8; s++) {
            x.stage(5, 1);
        }
        for (int s = 0; s < 8; s++) {
            is("not begun", x.built(s, 2), 0);
            is("begin", x.begin(), s);
            is("runs", x.built(s, 2), 1);
            x.months(1);
            is("built", x.built(s, 2), 2);
        }
        is("none is left", x.begin(), STATE);
    }

    private static void beginIsRefused() {
        CHECK.under(18, "STATE: STOPPED, one RUNS, or none is left.");
        TowerAppeal x = new TowerAppeal();
        is("none told", x.begin(), STATE);
        x.stage(10, 2);
        is("one told", x.begin(), 0);
        is("one runs, none is left", x.begin(), STATE);
        x.stage(10, 1);
        is("one runs", x.begin(), STATE);
        x.months(1);
        is("one runs, paused", x.begin(), STATE);
        x.gift(0, 10);
        x.months(1);
        is("one runs, a part of two is paid", x.begin(), STATE);
        is("not begun", x.built(1, 2), 0);
        x.months(1);
        is("it is built", x.begin(), 1);
        TowerAppeal y = new TowerAppeal();
        y.stage(10, 2);
        y.stop();
        is("stopped", y.begin(), STATE);
        is("not begun", y.built(0, 2), 0);
    }

    private static void builtOfAnother() {
        CHECK.under(19, "NONE when there is none such.");
        int[] due = {31, 3, 1, 20, 2};
        CHECK.edges("built, what", 0, 4, NONE, what -> halfBuilt().built(0, what), what -> due[what]);
        CHECK.edges("built, s", 0, 1, NONE, s -> halfBuilt().built(s, 0), s -> 31 + s);
        CHECK.edges("built, stopped", 0, 4, NONE, what -> {
            TowerAppeal x = halfBuilt();
            x.stop();
            return x.built(0, what);
        }, what -> due[what]);
        int[] none = {Integer.MIN_VALUE, -1, 0, 1, 7, 8, Integer.MAX_VALUE};
        for (int s : none) {
            is("none told", new TowerAppeal().built(s, 0), NONE);
        }
    }

    /** Two STAGES; of the first two parts of 10 of 31 pence are paid, and it paused twice. */
    private static TowerAppeal halfBuilt() {
        TowerAppeal x = new TowerAppeal();
        x.stage(31, 3);
        x.stage(32, 4);
        x.begin();
        x.months(1);
        x.gift(0, 20);
        x.months(3);
        return x;
    }

    private static void monthsAre1To24() {
        CHECK.under(20, "So many months (1 .. 24) end: the CLOCK's month; RANGE");
        CHECK.edges("months", 1, 24, RANGE, n -> new TowerAppeal().months(n), n -> n);
        CHECK.edges("count(0)", 1, 24, 0, n -> {
            TowerAppeal x = new TowerAppeal();
            x.months(n);
            return x.count(0);
        }, n -> n);
    }

    private static void notBeyond119() {
        CHECK.under(20, "RANGE, also beyond 119");
        int[] clocks = {94, 95, 96, 97, 117, 118, 119};
        for (int clock : clocks) {
            CHECK.edges("months in " + clock, 1, Math.min(24, 119 - clock), RANGE, n -> {
                TowerAppeal x = new TowerAppeal();
                Check.pass(x, clock);
                return x.months(n);
            }, n -> clock + n);
        }
        TowerAppeal y = new TowerAppeal();
        y.pledge(0, 10, 0, 1, 84);
        y.stage(10, 1);
        y.begin();
        Check.pass(y, 118);
        is("paused", y.built(0, 4), 118);
        is("two more", y.months(2), RANGE);
        is("none of them ended", y.count(0), 118);
        is("paused", y.built(0, 4), 118);
        is("one more", y.months(1), 119);
        is("paused", y.built(0, 4), 119);
        is("none more", y.months(1), RANGE);
        is("paused", y.built(0, 4), 119);
        is("the last month", y.count(0), 119);
    }

    private static void manyMonthsAreLikeOneByOne() {
        CHECK.under(20, "So many months (1 .. 24) end");
        for (int n = 1; n <= 24; n++) {
            TowerAppeal x = busyOne();
            TowerAppeal y = busyOne();
            x.months(n);
            for (int i = 0; i < n; i++) {
                y.months(1);
            }
            for (int what = 0; what <= 14; what++) {
                is("count(" + what + ") behind " + n, x.count(what), y.count(what));
            }
            is("lapsed in", x.about(0, 6), y.about(0, 6));
            is("paused", x.built(0, 4), y.built(0, 4));
        }
    }

    private static TowerAppeal busyOne() {
        TowerAppeal x = made("lapse 4;loan 30 10;");
        x.pledge(0, 10, 1, 2, 84);
        x.gift(0, 1000);
        x.stage(5000, 10);
        x.begin();
        return x;
    }

    private static void noMonthEndsWhenStopped() {
        CHECK.under(20, "RANGE, also beyond 119; STATE.");
        CHECK.edges("months, stopped", 1, 24, RANGE, n -> stoppedOne().months(n), n -> STATE);
        TowerAppeal x = made("lapse 1;loan 5 10;");
        x.pledge(0, 10, 0, 1, 84);
        x.stage(400, 2);
        x.begin();
        x.months(1);
        is("drawn", x.count(2), 200);
        x.stop();
        is("stopped", x.months(1), STATE);
        is("month", x.count(0), 1);
        is("no growth", x.count(2), 200);
        is("no part", x.built(0, 3), 200);
        is("no pause", x.built(0, 4), 0);
        TowerAppeal y = new TowerAppeal();
        Check.pass(y, 119);
        y.stop();
        is("beyond 119, stopped", y.months(1), RANGE);
    }

    private static void aPartFromCoin() {
        CHECK.under(20, "is paid, if COIN and what may still be drawn are as much; else the STAGE PAUSES that month.");
        for (int coin = 98; coin <= 102; coin++) {
            TowerAppeal x = new TowerAppeal();
            x.gift(0, coin);
            x.stage(100, 1);
            x.begin();
            x.months(1);
            boolean paid = coin >= 100;
            is("built, coin " + coin, x.built(0, 2), paid ? 2 : 1);
            is("paid", x.built(0, 3), paid ? 100 : 0);
            is("paused", x.built(0, 4), paid ? 0 : 1);
            is("coin", x.count(1), paid ? coin - 100 : coin);
            is("loan", x.count(2), 0);
        }
        TowerAppeal y = new TowerAppeal();
        y.stage(3, 4);
        y.begin();
        y.months(3);
        is("parts of nothing are paid from nothing", y.built(0, 4), 0);
        y.months(2);
        is("the last one isn't", y.built(0, 4), 2);
    }

    private static void aPartFromCoinAndTheLoan() {
        CHECK.under(20, "(loan less the LOAN) are as much: from COIN, the rest is drawn");
        for (int coin = 99; coin <= 101; coin++) {
            for (int part = 198; part <= 202; part++) {
                TowerAppeal x = made("loan 1 0;");
                x.gift(0, coin);
                x.stage(part, 1);
                x.begin();
                x.months(1);
                boolean paid = coin + 100 >= part;
                is("built, coin " + coin + ", part " + part, x.built(0, 2), paid ? 2 : 1);
                is("drawn", x.count(2), paid ? part - coin : 0);
                is("coin", x.count(1), paid ? 0 : coin);
                is("paused", x.built(0, 4), paid ? 0 : 1);
                is("count(6)", x.count(6), paid ? part : 0);
            }
        }
        TowerAppeal y = made("loan 1 10;");
        y.gift(0, 100);
        y.stage(100, 1);
        y.begin();
        y.months(1);
        is("coin alone, nothing is drawn", y.count(2), 0);
        TowerAppeal z = made("loan 999999 0;");
        z.stage(99999900, 1);
        z.stage(1, 1);
        z.begin();
        z.months(1);
        is("the most", z.count(2), 99999900);
        z.begin();
        z.months(1);
        is("not a penny more", z.built(1, 4), 1);
    }

    private static void aPartWhenTheLoanHasGrown() {
        CHECK.under(20, "what may still be drawn (loan less the LOAN)");
        // 1000 are drawn of 2000, and grow by 10: 990 may still be drawn.
        for (int coin = 9; coin <= 11; coin++) {
            TowerAppeal x = made("loan 20 10;");
            x.stage(2000, 2);
            x.begin();
            x.months(1);
            is("drawn", x.count(2), 1000);
            x.gift(0, coin);
            x.months(1);
            boolean paid = coin >= 10;
            is("built, coin " + coin, x.built(0, 2), paid ? 2 : 1);
            is("paused", x.built(0, 4), paid ? 0 : 1);
            is("loan", x.count(2), paid ? 1010 + 1000 - coin : 1010 - coin);
            is("grown", x.count(7), 10);
            is("coin", x.count(1), 0);
        }
    }

    private static void aPartWhenTheLoanIsAboveItsMost() {
        CHECK.under(20, "what may still be drawn (loan less the LOAN)");
        // All of 1000 are drawn, and grow to 1010: nothing may be drawn, and COIN alone counts.
        for (int coin = 999; coin <= 1001; coin++) {
            TowerAppeal x = made("loan 10 10;");
            x.stage(2000, 2);
            x.begin();
            x.months(1);
            x.gift(0, coin);
            x.months(1);
            boolean paid = coin >= 1000;
            is("built, coin " + coin, x.built(0, 2), paid ? 2 : 1);
            is("loan", x.count(2), 1010 - (paid ? coin - 1000 : coin));
            is("coin", x.count(1), 0);
        }
        TowerAppeal y = made("loan 20 0;");
        y.stage(2000, 2);
        y.begin();
        y.months(1);
        Check.tell(y, "loan 9 0;");
        y.gift(0, 999);
        y.months(1);
        is("a later trust's most, a penny short", y.built(0, 4), 1);
        is("loan", y.count(2), 1);
    }

    private static void onlyTheStageThatRunsIsPaid() {
        CHECK.under(20, "The part of the STAGE that RUNS is paid");
        TowerAppeal x = made("loan 10 0;");
        x.gift(0, 100);
        x.stage(50, 1);
        x.stage(50, 1);
        x.months(1);
        is("not begun", x.built(0, 3), 0);
        is("no pause", x.built(0, 4), 0);
        is("coin", x.count(1), 100);
        x.begin();
        x.months(2);
        is("built", x.built(0, 3), 50);
        is("the next isn't begun", x.built(1, 3), 0);
        is("no pause", x.built(1, 4), 0);
        is("no pause behind its end", x.built(0, 4), 0);
        is("coin", x.count(1), 50);
    }

    private static void theLoanGrowsByItsThousandths() {
        CHECK.under(20, "(2) The LOAN grows by its thousandths.");
        // loan drawn, thousandths, growth in a month
        int[][] cases = {
            {999, 1, 0}, {1000, 1, 1}, {1001, 1, 1}, {1999, 1, 1}, {2000, 1, 2}, {99, 10, 0}, {100, 10, 1}, {101, 10, 1},
            {199, 10, 1}, {1000, 0, 0}, {111, 9, 0}, {112, 9, 1}, {99999900, 10, 999999}, {99999900, 1, 99999},
        };
        for (int[] one : cases) {
            TowerAppeal x = made("loan 999999 " + one[1] + ";");
            x.stage(one[0], 1);
            x.begin();
            x.months(1);
            is("drawn", x.count(2), one[0]);
            is("none in the month in which it is drawn", x.count(7), 0);
            x.months(1);
            is("loan of " + one[0] + " by " + one[1], x.count(2), one[0] + one[2]);
            is("grown", x.count(7), one[2]);
        }
        TowerAppeal y = made("loan 10 10;");
        y.stage(1000, 1);
        y.begin();
        y.months(1);
        int[] loans = {1010, 1020, 1030, 1040, 1050};
        for (int loan : loans) {
            y.months(1);
            is("grown, cut each month", y.count(2), loan);
        }
        is("grown in all", y.count(7), 50);
        is("no coin by it", y.count(1), 0);
    }

    private static void theLoanGrowsAheadOfItsPart() {
        CHECK.under(20, "(2) The LOAN grows by its thousandths. (3) The part of the STAGE that RUNS is paid (4) COIN pays back the LOAN");
        TowerAppeal x = made("loan 100 10;");
        x.stage(2000, 2);
        x.begin();
        x.months(1);
        x.months(1);
        is("1000 grew by 10, then 1000 are drawn", x.count(2), 2010);
        is("grown", x.count(7), 10);
        x.gift(0, 2010);
        x.months(1);
        is("2010 grew by 20, then are paid back", x.count(2), 20);
        is("grown", x.count(7), 30);
        TowerAppeal y = made("loan 100 0;");
        y.stage(2000, 2);
        y.begin();
        y.months(1);
        y.gift(0, 1500);
        y.months(1);
        is("the part ahead of the paying back", y.count(2), 500);
        is("built", y.built(0, 2), 2);
    }

    private static void coinPaysBackAsFarAsItGoes() {
        CHECK.under(20, "(4) COIN pays back the LOAN, as far as it goes.");
        for (int coin = 998; coin <= 1002; coin++) {
            TowerAppeal x = made("loan 10 0;");
            x.stage(1000, 1);
            x.begin();
            x.months(1);
            x.gift(0, coin);
            is("not before the month ends", x.count(2), 1000);
            x.months(1);
            is("loan, coin " + coin, x.count(2), Math.max(0, 1000 - coin));
            is("coin", x.count(1), Math.max(0, coin - 1000));
            is("count(6)", x.count(6), 1000);
        }
        TowerAppeal y = made("loan 10 0;");
        y.stage(3000, 3);
        y.begin();
        y.months(1);
        y.gift(0, 600);
        y.months(1);
        is("paused", y.built(0, 4), 1);
        is("it pays back all the same", y.count(2), 400);
    }

    private static void sureFor1To84Months() {
        CHECK.under(21, "SURE for the next n months (1 .. 84); RANGE.");
        CHECK.edges("sure", 1, 84, RANGE, n -> {
            TowerAppeal x = new TowerAppeal();
            x.pledge(0, 10, 0, 1, 84);
            x.pledge(0, 10, 84, 1, 84);
            x.pay(0, 10);
            return x.sure(n);
        }, n -> 10 * n);
        CHECK.edges("sure of nothing", 1, 84, RANGE, n -> new TowerAppeal().sure(n), n -> 0);
        CHECK.edges("sure in the last month", 1, 84, RANGE, n -> {
            TowerAppeal x = made("lapse 12;");
            Check.pass(x, 118);
            x.pledge(0, 10, 118, 1, 84);
            x.pay(0, 10);
            x.months(1);
            return x.sure(n);
        }, n -> 0);
        CHECK.edges("sure in the last month but one", 1, 84, RANGE, n -> {
            TowerAppeal x = made("lapse 12;");
            Check.pass(x, 118);
            x.pledge(0, 10, 118, 1, 84);
            x.pay(0, 10);
            return x.sure(n);
        }, n -> 10);
    }

    private static void sureInTheNextMonths() {
        CHECK.under(21, "what is due (and not filled) in them");
        TowerAppeal x = new TowerAppeal();
        x.pledge(0, 1, 0, 1, 1);
        x.pay(0, 1);
        x.pledge(1, 500, 10, 1, 1);
        x.pledge(1, 70, 84, 1, 1);
        x.pledge(1, 9, 85, 1, 1);
        int[][] due = {{1, 0}, {9, 0}, {10, 500}, {11, 500}, {83, 500}, {84, 570}};
        for (int[] one : due) {
            is("sure(" + one[0] + ")", x.sure(one[0]), one[1]);
        }
        int[] paid = {1, 498, 1};
        int[] left = {499, 1, 0};
        for (int i = 0; i < paid.length; i++) {
            x.pay(1, paid[i]);
            is("not filled", x.sure(10), left[i]);
        }
        TowerAppeal y = new TowerAppeal();
        y.pledge(0, 100, 0, 1, 3);
        y.pay(0, 100);
        is("month 1", y.sure(1), 100);
        y.months(1);
        is("the CLOCK's month isn't next: 100 of 200 times 100", y.sure(1), 50);
        y.months(1);
        is("none is due in the next ones", y.sure(84), 0);
    }

    private static void sureIsCut() {
        CHECK.under(21, "times what was filled of all dues up to the CLOCK's month over what these are (cut)");
        int[] filled = {0, 1, 2, 3, 4, 5, 6, 7};
        int[] due = {0, 1, 2, 4, 5, 7, 8, 10};
        for (int i = 0; i < filled.length; i++) {
            TowerAppeal x = new TowerAppeal();
            x.pledge(0, 7, 0, 1, 1);
            x.pledge(0, 10, 1, 1, 1);
            if (filled[i] > 0) {
                x.pay(0, filled[i]);
            }
            is(filled[i] + " of 7 are filled, 10 to come", x.sure(1), due[i]);
        }
        TowerAppeal y = new TowerAppeal();
        y.pledge(0, 3, 0, 1, 3);
        y.pledge(0, 1, 1, 1, 1);
        y.pledge(0, 1, 1, 1, 1);
        y.pay(0, 1);
        is("of all PLEDGES together: 5 times 1 over 3", y.sure(1), 1);
        y.pay(0, 4);
        is("what is filled of dues to come doesn't count: 3 of 3, 3 to come", y.sure(1), 3);
        is("and the next month's", y.sure(2), 6);
    }

    private static void sureIfNoneWasDue() {
        CHECK.under(21, "0 if none was due.");
        TowerAppeal x = new TowerAppeal();
        x.pledge(0, 100, 1, 1, 3);
        is("none was due", x.sure(84), 0);
        x.pay(0, 150);
        is("filled ahead, none was due", x.sure(84), 0);
        x.months(1);
        is("one was due, and filled", x.sure(84), 150);
        TowerAppeal y = new TowerAppeal();
        y.gift(0, 100);
        is("a gift is no due", y.sure(84), 0);
        TowerAppeal z = new TowerAppeal();
        z.pledge(0, 100, 0, 1, 1);
        z.pay(0, 40);
        z.pledge(0, 100, 60, 1, 1);
        Check.pass(z, 59);
        is("one was due long ago", z.sure(1), 40);
    }

    private static void sureOfOneThatLapsed() {
        CHECK.under(21, "of a PLEDGE that lapsed those up to the month of its lapse, also those that are none any more");
        // PLEDGE 0 lapses in month 2 with 250 of 300 filled; PLEDGE 1 is filled; 1000 are due in month 6.
        for (int month = 2; month <= 5; month++) {
            TowerAppeal x = made("lapse 1;");
            x.pledge(0, 100, 0, 1, 20);
            x.pay(0, 250);
            x.pledge(1, 1000, 6, 1, 1);
            Check.pass(x, month);
            is("lapsed", x.about(0, 5), month >= 3 ? 1 : 0);
            int toCome = month >= 3 ? 1000 : 1000 + 4 * 100;
            is("sure in " + month, x.sure(6 - month), (long) toCome * 250 / 300);
        }
        TowerAppeal y = made("lapse 1;");
        y.pledge(0, 100, 0, 1, 20);
        y.pledge(1, 1000, 6, 1, 1);
        y.months(1);
        is("nothing was filled", y.sure(84), 0);
    }

    private static void sureOfOneTakenUp() {
        CHECK.under(21, "and those there again");
        TowerAppeal x = made("lapse 1;");
        x.pledge(0, 100, 0, 1, 20);
        x.pay(0, 50);
        x.pledge(1, 1000, 19, 1, 1);
        x.months(3);
        is("lapsed in", x.about(0, 6), 0);
        x.takeUp(0);
        is("50 of 100, in month 3; 16 dues are there again", x.sure(16), (1000 + 16 * 100) / 2);
        is("the one in the CLOCK's month isn't", x.sure(1), 50);
        x.months(1);
        is("50 of 200, in month 4", x.sure(15), (1000 + 15 * 100) / 4);
        x.pay(0, 100);
        is("150 of 200", x.sure(15), (1000 + 15 * 100) * 3 / 4);
        x.months(2);
        is("lapsed once more, in 5: 150 of 300", x.sure(13), 500);
        x.months(2);
        is("later: the same", x.sure(11), 500);
    }

    private static void sureOfTheLargest() {
        CHECK.under(21, "what is due (and not filled) in them, times what was filled");
        TowerAppeal x = made("lapse 12;");
        for (int p = 0; p < 60; p++) {
            x.pledge(0, 100000, 0, 1, 84);
            x.pay(p, 100000);
        }
        is("all filled: 83 to come of each", x.sure(84), 60L * 83 * 100000);
        x.months(1);
        is("half: 82 to come of each", x.sure(84), 60L * 82 * 100000 / 2);
        for (int p = 0; p < 60; p++) {
            x.pay(p, 4000000);
        }
        x.months(11);
        is("all filled: 43 to come of each", x.sure(84), 60L * 43 * 100000);
    }

    private static void stonesOfThoseWhoGaveAsMuch() {
        CHECK.under(22, "STONES: of GIVERS who gave stone pounds or more");
        int[] pounds = {1, 2, 1000, 49999};
        for (int stone : pounds) {
            for (int more = -1; more <= 1; more++) {
                TowerAppeal x = made("stone " + stone + ";");
                x.gift(4, stone * 100 + more);
                boolean has = more >= 0;
                is("stone " + stone + ", " + more, x.stone(0), has ? 4 : NONE);
                is("count(14)", x.count(14), has ? 1 : 0);
            }
        }
        TowerAppeal y = new TowerAppeal();
        y.gift(0, 99999);
        is("a thousand pounds if none is told, a penny short", y.count(14), 0);
        y.gift(0, 1);
        is("a thousand pounds if none is told", y.count(14), 1);
        TowerAppeal z = made("stone 999999;");
        for (int i = 1; i <= 20; i++) {
            z.gift(0, i < 20 ? 5000000 : 4999899);
        }
        is("the most, a penny short", z.stone(0), NONE);
        z.gift(0, 1);
        is("the most", z.stone(0), 0);
    }

    private static void stonesBySumsAlone() {
        CHECK.under(22, "(SUMS alone)");
        TowerAppeal x = made("match 100 999 119;tax 50;stone 1;");
        x.declare(0, 0, 119);
        x.gift(0, 50);
        x.claim();
        x.pledge(0, 100, 0, 1, 1);
        is("coin is 125", x.count(1), 125);
        is("neither what is matched, nor tax, nor what is pledged", x.stone(0), NONE);
        x.pay(0, 49);
        is("a penny short", x.stone(0), NONE);
        x.pay(0, 1);
        is("on a pledge and a gift together", x.stone(0), 0);
        TowerAppeal y = made("stone 1;");
        y.gift(1, 99);
        y.gift(2, 99);
        is("each by himself", y.count(14), 0);
    }

    private static void stonesInTheirOrder() {
        CHECK.under(22, "in the order in which they first had (by the TRUST as it is now: by SUMS as they came");
        TowerAppeal x = made("stone 2;");
        x.gift(9, 150);
        x.gift(3, 199);
        x.gift(6, 200);
        x.gift(3, 1);
        x.gift(9, 50);
        x.gift(6, 1000);
        stonesAre(x, 6, 3, 9);
        Check.tell(x, "stone 1;");
        stonesAre(x, 9, 3, 6);
        Check.tell(x, "stone 3;");
        stonesAre(x, 6);
        Check.tell(x, "stone 12;");
        stonesAre(x, 6);
        Check.tell(x, "stone 13;");
        stonesAre(x);
        x.gift(0, 1300);
        x.gift(6, 100);
        stonesAre(x, 0, 6);
        x.stop();
        stonesAre(x, 0, 6);
        Check.tell(x, "stone 2;");
        stonesAre(x, 6, 3, 9, 0);
    }

    private static void stonesAre(TowerAppeal x, int... givers) {
        for (int i = 0; i < givers.length; i++) {
            is("stone(" + i + ")", x.stone(i), givers[i]);
        }
        is("stone behind the last", x.stone(givers.length), NONE);
        is("count(14)", x.count(14), givers.length);
    }

    private static void stonesOfTheNameless() {
        CHECK.under(22, "those who wish none aside).");
        TowerAppeal x = made("stone 1;");
        x.nameless(2, true);
        for (int g = 3; g >= 0; g--) {
            x.gift(g, 100);
        }
        stonesAre(x, 3, 1, 0);
        x.nameless(3, true);
        stonesAre(x, 1, 0);
        x.nameless(2, false);
        stonesAre(x, 2, 1, 0);
        x.nameless(3, false);
        stonesAre(x, 3, 2, 1, 0);
        for (int g = 0; g <= 3; g++) {
            x.nameless(g, true);
        }
        stonesAre(x);
    }

    private static void theIthStone() {
        CHECK.under(22, "The i-th GIVER with a STONE; NONE.");
        int[] sizes = {1, 2, 29, 30};
        for (int size : sizes) {
            CHECK.edges("stone of " + size, 0, size - 1, NONE, i -> {
                TowerAppeal x = made("stone 1;");
                for (int n = 0; n < size; n++) {
                    x.gift(29 - n, 100);
                }
                return x.stone(i);
            }, i -> 29 - i);
        }
        int[] none = {Integer.MIN_VALUE, -1, 0, 1, Integer.MAX_VALUE};
        for (int i : none) {
            is("none has", new TowerAppeal().stone(i), NONE);
        }
    }

    /** COIN is 2000 and so many pence more; 1200 came of GIVER 5, 800 of GIVER 7. */
    private static TowerAppeal withCoin(String stop, int more) {
        TowerAppeal x = made(stop);
        x.gift(5, 1100);
        x.gift(7, 800);
        if (more > 0) {
            Check.tell(x, stop + "match " + more + " 999 0;");
        }
        x.gift(5, 100);
        if (more < 0) {
            x.stage(-more, 1);
            x.begin();
            x.months(1);
        }
        is("coin", x.count(1), 2000 + more);
        return x;
    }

    private static void allIsGivenBackIfThereIsAsMuch() {
        CHECK.under(23, "with all: each GIVER gets back what he gave, if COIN is as much as all gave");
        for (int more = 0; more <= 2; more++) {
            TowerAppeal x = withCoin("stop all;", more);
            is("stop, more " + more, x.stop(), 2000);
            is("back", x.back(5), 1200);
            is("back", x.back(7), 800);
            is("back of one who gave nothing", x.back(6), 0);
            is("coin", x.count(1), more);
        }
        TowerAppeal y = withCoin("stop all;", -1);
        is("stop, a penny short", y.stop(), 1199 + 799);
        is("back", y.back(5), 1999 * 1200 / 2000);
        is("back", y.back(7), 1999 * 800 / 2000);
        is("coin", y.count(1), 1);
    }

    private static void elseCoinIsParted() {
        CHECK.under(23, "else, and with left, COIN times what he gave over what all gave (the whole part");
        String[] texts = {"stop left;", "", "stop all;"};
        for (String text : texts) {
            for (int more = text.equals("stop all;") ? -1 : 2; more >= -3; more--) {
                TowerAppeal x = withCoin(text, more);
                int first = (2000 + more) * 1200 / 2000;
                int second = (2000 + more) * 800 / 2000;
                is("stop '" + text + "', more " + more, x.stop(), first + second);
                is("back", x.back(5), first);
                is("back", x.back(7), second);
                is("COIN is less by what is given back", x.count(1), 2000 + more - first - second);
            }
        }
        TowerAppeal y = made("stop left;");
        y.gift(0, 1);
        y.gift(1, 1);
        y.gift(2, 1);
        y.stage(1, 1);
        y.begin();
        y.months(1);
        is("two pence for three", y.stop(), 0);
        is("back", y.back(0), 0);
        is("coin", y.count(1), 2);
        for (int pence = 1; pence <= 2; pence++) {
            TowerAppeal z = made("stop left;");
            z.gift(0, pence);
            is("the least", z.stop(), pence);
            is("back", z.back(0), pence);
            is("coin", z.count(1), 0);
        }
    }

    private static void nothingIfNoneGave() {
        CHECK.under(23, "nothing if none gave).");
        String[] texts = {"stop left;", "stop all;", ""};
        for (String text : texts) {
            TowerAppeal x = made(text);
            x.pledge(0, 100, 0, 1, 1);
            is("stop", x.stop(), 0);
            is("back", x.back(0), 0);
            is("coin", x.count(1), 0);
            TowerAppeal y = made(text + "loan 1 0;");
            y.stage(100, 1);
            y.begin();
            y.months(1);
            is("stop, with a loan", y.stop(), 0);
            is("loan", y.count(2), 100);
            TowerAppeal z = made(text);
            z.gift(0, 100);
            z.stage(100, 1);
            z.begin();
            z.months(1);
            is("all is spent", z.stop(), 0);
            is("back", z.back(0), 0);
        }
    }

    private static void stoppedBefore() {
        CHECK.under(23, "All is STOPPED: how many pence are given back; STATE: it was before.");
        TowerAppeal x = new TowerAppeal();
        x.gift(0, 100);
        is("not stopped", x.count(12), 0);
        is("stop", x.stop(), 100);
        is("stopped", x.count(12), 1);
        is("again", x.stop(), STATE);
        is("and again", x.stop(), STATE);
        is("back", x.back(0), 100);
        is("coin", x.count(1), 0);
        TowerAppeal y = new TowerAppeal();
        Check.pass(y, 119);
        is("in the last month", y.stop(), 0);
    }

    private static void backAheadOfStop() {
        CHECK.under(24, "What a GIVER got back; RANGE. (0 ahead of stop().)");
        CHECK.edges("back, ahead of stop, g", 0, 29, RANGE, g -> {
            TowerAppeal x = new TowerAppeal();
            x.gift(g, 100);
            return x.back(g);
        }, g -> 0);
        CHECK.edges("back, g", 0, 29, RANGE, g -> {
            TowerAppeal x = new TowerAppeal();
            x.gift(g, 100);
            x.stop();
            return x.back(g);
        }, g -> 100);
    }

    private static void theLargestIsParted() {
        CHECK.under(23, "COIN times what he gave over what all gave");
        TowerAppeal x = made("match 100 999999 119;tax 50;stop left;");
        x.declare(0, 0, 0);
        x.declare(1, 0, 0);
        for (int i = 0; i < 250; i++) {
            x.gift(i % 5 == 0 ? 1 : 0, 5000000);
        }
        x.claim();
        is("coin", x.count(1), 1974999900);
        is("stop", x.stop(), 1974999900);
        is("back", x.back(0), 1579999920);
        is("back", x.back(1), 394999980);
        is("coin", x.count(1), 0);
    }

    private static void countOfOthers() {
        CHECK.under(25, "NONE for others.");
        CHECK.edges("count", 0, 14, NONE, what -> new TowerAppeal().count(what), what -> 0);
        int[] due = {1, 0, 0, 100, 0, 0, 0, 0, 1, 1, 0, 1, 1, 20, 1};
        CHECK.edges("count of a stopped one", 0, 14, NONE, what -> {
            TowerAppeal x = made("lapse 1;stone 1;");
            x.pledge(0, 1, 0, 1, 2);
            x.gift(0, 100);
            x.months(1);
            x.stop();
            x.feed(0, 0, 0, 0, 0);
            return x.count(what);
        }, what -> due[what]);
    }

    private static void countedAtTheEdges() {
        CHECK.under(25, "9: those LAPSED now");
        TowerAppeal x = made("lapse 1;");
        x.pledge(0, 1, 0, 1, 9);
        x.pledge(0, 1, 0, 1, 9);
        x.pledge(0, 1, 5, 1, 9);
        is("none", x.count(9), 0);
        x.months(1);
        is("two of three", x.count(9), 2);
        x.takeUp(1);
        is("one is taken up", x.count(9), 1);
        x.months(2);
        is("it lapsed once more", x.count(9), 2);
        x.stop();
        is("stopped", x.count(9), 2);
        is("pledges", x.count(8), 3);
    }
}
