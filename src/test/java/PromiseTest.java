/** Each promise of the document by itself: ordinary inputs, the edges that it names, wrong inputs. */
public final class PromiseTest {
    private static final int NONE = TowerAppeal.NONE;
    private static final int RANGE = TowerAppeal.RANGE;
    private static final int FULL = TowerAppeal.FULL;
    private static final int STATE = TowerAppeal.STATE;
    private static final int[] FAR = {Integer.MIN_VALUE, -1000, Integer.MAX_VALUE};

    private static final Check CHECK = new Check("promises");
    private static int promise;

    public static void main(String[] args) {
        promise = 1;
        newObject();
        promise = 2;
        feed();
        promise = 3;
        end();
        promise = 4;
        trustTellsRules();
        trustAfterFault();
        trustChangesNothingThatWas();
        promise = 5;
        faultSyntax();
        faultRange();
        faultTwice();
        faultOther();
        promise = 6;
        rule();
        promise = 7;
        declare();
        promise = 8;
        nameless();
        promise = 9;
        pledge();
        pledgeBehindTheLastMonth();
        promise = 10;
        change();
        promise = 11;
        pay();
        payWrong();
        promise = 12;
        gift();
        giftMatched();
        promise = 13;
        takeUp();
        takeUpOnce();
        promise = 14;
        claim();
        promise = 15;
        about();
        promise = 16;
        giver();
        promise = 17;
        stage();
        promise = 18;
        begin();
        promise = 19;
        built();
        builtParts();
        promise = 20;
        months();
        monthsLapse();
        monthsLoan();
        promise = 21;
        sure();
        sureOfLapsed();
        sureOfLapsedTwice();
        promise = 22;
        stone();
        promise = 23;
        stop();
        stopShares();
        promise = 24;
        back();
        promise = 25;
        count();
        promise = 0;
        stoppedGroup();
        CHECK.finish();
    }

    private static void is(String call, long got, long want) {
        CHECK.is("promise " + promise + ": " + call, got, want);
    }

    private static TowerAppeal made() {
        return new TowerAppeal();
    }

    private static TowerAppeal made(String text) {
        TowerAppeal x = new TowerAppeal();
        CHECK.isTrue("'" + text + "' is a text", Check.tell(x, text) >= 0);
        return x;
    }

    private static void newObject() {
        TowerAppeal x = made();
        for (int what = 0; what <= 14; what++) {
            is("count " + what, x.count(what), 0);
        }
        is("fault 0", x.fault(0), 0);
        is("fault 1", x.fault(1), NONE);
        int[] rules = {0, 0, 0, 0, 3, 0, 0, 1000, 0};
        for (int what = 0; what < rules.length; what++) {
            is("rule " + what, x.rule(what), rules[what]);
        }
        is("about", x.about(0, 0), NONE);
        is("built", x.built(0, 0), NONE);
        is("stone", x.stone(0), NONE);
        is("giver from", x.giver(0, 2), NONE);
        is("giver gave", x.giver(29, 0), 0);
        is("sure", x.sure(84), 0);
        is("claim", x.claim(), 0);
        is("stop", x.stop(), 0);
    }

    private static void feed() {
        TowerAppeal x = made();
        for (int i = 1; i <= 20; i++) {
            is("feed", x.feed(0, -1, 2, -3, 4), 20 * i);
        }
        is("feed, 400 there", x.feed(0, 0, 0, 0, 0), FULL);
        is("count", x.count(13), 400);
        x.end(381);
        is("feed, 381 there", x.feed(0, 0, 0, 0, 0), FULL);
        is("count", x.count(13), 381);
        x.end(380);
        is("feed, 380 there", x.feed(0, 0, 0, 0, 0), 400);
        // The order of the bytes: "tax 1;" by its bytes, over two ints, behind five blanks.
        TowerAppeal y = made();
        y.feed(0x20202020, 0x20746178, 0x20313b20, 0x20202020, 0x20202020);
        is("trust", y.trust(), 1);
        is("rule", y.rule(3), 1);
    }

    private static void end() {
        TowerAppeal x = made();
        is("end(0)", x.end(0), 0);
        is("end(1), none there", x.end(1), NONE);
        x.feed(0, 0, 0, 0, 0);
        is("end(21)", x.end(21), NONE);
        is("count", x.count(13), 20);
        is("end(-1)", x.end(-1), NONE);
        is("end(20)", x.end(20), 20);
        is("end(7)", x.end(7), 7);
        is("end(8)", x.end(8), NONE);
        is("feed", x.feed(0, 0, 0, 0, 0), 27);
        for (int far : FAR) {
            is("end far", x.end(far), NONE);
        }
        is("count", x.count(13), 27);
    }

    private static void trustTellsRules() {
        String all = "match 100 999999 119;tax 50;lapse 12;loan 999999 10;stone 999999;stop all;";
        rulesAre(made(all), 100, 999999, 119, 50, 12, 999999, 10, 999999, 1);
        String least = "stop left;stone 1;loan 0 0;lapse 1;tax 0;match 0 0 0;";
        rulesAre(made(least), 0, 0, 0, 0, 1, 0, 0, 1, 0);
        rulesAre(made("tax000007\n;\n\nstone  000010 ; "), 0, 0, 0, 7, 3, 0, 0, 10, 0);
        rulesAre(made("loan1 2;stop\nall;"), 0, 0, 0, 0, 3, 1, 2, 1000, 1);
        TowerAppeal x = made();
        is("all lines", Check.tell(x, all), 6);
        is("tape", x.count(13), 0);
        is("one line", Check.tell(x, " lapse 2;"), 1);
        rulesAre(x, 0, 0, 0, 0, 2, 0, 0, 1000, 0);
        is("no line", Check.tell(x, "  \n "), 0);
        rulesAre(x, 0, 0, 0, 0, 3, 0, 0, 1000, 0);
        String blanks = " ".repeat(393) + "tax 1 ;";
        is("400 bytes", Check.tell(x, blanks), 1);
        is("rule", x.rule(3), 1);
    }

    private static void rulesAre(TowerAppeal x, int... rules) {
        for (int what = 0; what < rules.length; what++) {
            is("rule " + what, x.rule(what), rules[what]);
        }
        is("fault", x.fault(0), 0);
    }

    private static void trustAfterFault() {
        TowerAppeal x = made("tax 20;stop all;");
        is("faulty", Check.tell(x, "tax 30;lapse 0;"), NONE);
        is("tape", x.count(13), 0);
        is("rule stays", x.rule(3), 20);
        is("rule stays", x.rule(8), 1);
        is("fault", x.fault(0), 2);
        is("good", Check.tell(x, "loan 3 4;"), 1);
        is("fault", x.fault(0), 0);
        is("place", x.fault(1), NONE);
        is("rule", x.rule(3), 0);
    }

    private static void trustChangesNothingThatWas() {
        TowerAppeal x = made("match 50 10 119;");
        is("gift", x.gift(0, 1000), 500);
        Check.tell(x, "match 100 4 119;");
        is("matched", x.count(4), 500);
        is("gift, the cap is lower now", x.gift(0, 1000), 0);
        Check.tell(x, "match 100 6 119;");
        is("gift, the cap is higher now", x.gift(0, 1000), 100);
        is("coin", x.count(1), 3600);
    }

    private static void faultIs(String text, int kind, int place) {
        TowerAppeal x = made();
        is("trust '" + text + "'", Check.tell(x, text), NONE);
        is("fault 0 '" + text + "'", x.fault(0), kind);
        is("fault 1 '" + text + "'", x.fault(1), place);
    }

    private static void faultSyntax() {
        faultIs(";", 1, 0);
        faultIs("12;", 1, 0);
        faultIs(" tax 1;;", 1, 7);
        faultIs("taxes 1;", 1, 0);
        faultIs("ta x 1;", 1, 0);
        faultIs("max 1;", 1, 0);
        faultIs("taxz 1;", 1, 0);
        faultIs("taxa 1;", 1, 0);
        faultIs("tax`1;", 1, 3);
        faultIs("tax{1;", 1, 3);
        faultIs("tax 1/;", 1, 5);
        faultIs("tax 1:;", 1, 5);
        faultIs("Tax 1;", 1, 0);
        faultIs("tax 1", 1, 5);
        faultIs("tax 1 \n ", 1, 8);
        faultIs("tax", 1, 3);
        faultIs("tax ;", 1, 4);
        faultIs("tax 1 2;", 1, 6);
        faultIs("tax tax;", 1, 4);
        faultIs("tax 1.", 1, 5);
        faultIs("tax -1;", 1, 4);
        faultIs("tax 1;lapse", 1, 11);
        faultIs("all;", 1, 0);
        faultIs("left", 1, 0);
        faultIs("stop 1;", 1, 5);
        faultIs("stop match;", 1, 5);
        faultIs("stop allx;", 1, 5);
        faultIs("stop al", 1, 5);
        faultIs("stopall;", 1, 0);
        faultIs("stop all left;", 1, 9);
        faultIs("stop all all;", 1, 9);
        faultIs("match 1 2;", 1, 9);
        faultIs("match 1 2 3 4;", 1, 12);
        faultIs("loan 1;", 1, 6);
        faultIs("tax 0000001;", 1, 4);
        faultIs("tax 1 0000001", 1, 6);
        faultIs("tax 1;" + (char) 233, 1, 6);
        faultIs("tax 1;" + (char) 0, 1, 6);
        faultIs("tax\t1;", 1, 3);
        faultIs("tax 1;\r\n", 1, 6);
        faultIs("x".repeat(400), 1, 0);
        faultIs("tax " + "1".repeat(396), 1, 4);
        faultIs("match 1 2 3;tax 1;lapse 1;loan 1 1;stone 1;stop all;other", 1, 52);
    }

    private static void faultRange() {
        faultIs("match 101 0 0;", 2, 6);
        faultIs("match 100 0 120;", 2, 12);
        faultIs("match 999999 x", 2, 6);
        faultIs("tax 51;", 2, 4);
        faultIs("tax 51 oh", 2, 4);
        faultIs("lapse 0;", 2, 6);
        faultIs("lapse 13;", 2, 6);
        faultIs("loan 1 11;", 2, 7);
        faultIs("stone 0;", 2, 6);
        faultIs("stone 000000;", 2, 6);
        faultIs("stop left;\ntax  99", 2, 16);
    }

    private static void faultTwice() {
        faultIs("tax 1;tax 1;", 3, 6);
        faultIs("tax 1;tax ?", 3, 6);
        faultIs("stop all;tax 1;stop", 3, 15);
        faultIs("match 1 2 3;tax 1;lapse 1;loan 1 1;stone 1;stop all;\nloan", 3, 53);
        faultIs("tax 1;tax1", 3, 6);
        faultIs("lapse 1;tax 1 lapse", 1, 14);
    }

    private static void faultOther() {
        TowerAppeal x = made();
        Check.tell(x, "?");
        is("fault 2", x.fault(2), NONE);
        is("fault -1", x.fault(-1), NONE);
        for (int far : FAR) {
            is("fault far", x.fault(far), NONE);
        }
        is("fault 0", x.fault(0), 1);
        is("fault 1", x.fault(1), 0);
    }

    private static void rule() {
        TowerAppeal x = made("match 1 2 3;tax 4;lapse 5;loan 6 7;stone 8;stop all;");
        rulesAre(x, 1, 2, 3, 4, 5, 6, 7, 8, 1);
        is("rule -1", x.rule(-1), -9);
        is("rule 9", x.rule(9), -9);
        for (int far : FAR) {
            is("rule far", x.rule(far), -9);
        }
        x.stop();
        is("rule, stopped", x.rule(7), 8);
        is("trust, stopped", Check.tell(x, "stone 9;"), 1);
        is("rule, stopped", x.rule(7), 9);
    }

    private static void declare() {
        TowerAppeal x = made("tax 10;");
        is("0 .. 119", x.declare(0, 0, 119), 1);
        is("from", x.giver(0, 2), 0);
        is("to", x.giver(0, 3), 119);
        is("one month", x.declare(29, 7, 7), 1);
        is("from", x.giver(29, 2), 7);
        is("to", x.giver(29, 3), 7);
        is("anew", x.declare(0, 3, 4), 1);
        is("from", x.giver(0, 2), 3);
        is("giver 30", x.declare(30, 0, 1), RANGE);
        is("giver -1", x.declare(-1, 0, 1), RANGE);
        is("from -1", x.declare(0, -1, 1), RANGE);
        is("to 120", x.declare(0, 0, 120), RANGE);
        is("from above to", x.declare(0, 2, 1), RANGE);
        for (int far : FAR) {
            is("far g", x.declare(far, 0, 1), RANGE);
            is("far from", x.declare(0, far, 1), RANGE);
            is("far to", x.declare(0, 0, far), RANGE);
        }
        is("from stays", x.giver(0, 2), 3);
        is("to stays", x.giver(0, 3), 4);
        x.gift(0, 1000);
        is("the latest holds", x.claim(), 0);
    }

    private static void nameless() {
        TowerAppeal x = made();
        is("does already", x.nameless(29, false), 0);
        is("wishes none", x.nameless(29, true), 1);
        is("4", x.giver(29, 4), 1);
        is("wishes none already", x.nameless(29, true), 0);
        is("does", x.nameless(29, false), 1);
        is("4", x.giver(29, 4), 0);
        is("-1", x.nameless(-1, true), RANGE);
        is("30", x.nameless(30, false), RANGE);
        for (int far : FAR) {
            is("far", x.nameless(far, true), RANGE);
        }
    }

    private static void pledge() {
        TowerAppeal x = made();
        x.months(2);
        is("least", x.pledge(0, 1, 2, 1, 1), 0);
        is("most", x.pledge(29, 100000, 119, 12, 84), 1);
        is("g -1", x.pledge(-1, 1, 2, 1, 1), RANGE);
        is("g 30", x.pledge(30, 1, 2, 1, 1), RANGE);
        is("pence 0", x.pledge(0, 0, 2, 1, 1), RANGE);
        is("pence 100001", x.pledge(0, 100001, 2, 1, 1), RANGE);
        is("first 1", x.pledge(0, 1, 1, 1, 1), RANGE);
        is("first 120", x.pledge(0, 1, 120, 1, 1), RANGE);
        is("every 0", x.pledge(0, 1, 2, 0, 1), RANGE);
        is("every 13", x.pledge(0, 1, 2, 13, 1), RANGE);
        is("dues 0", x.pledge(0, 1, 2, 1, 0), RANGE);
        is("dues 85", x.pledge(0, 1, 2, 1, 85), RANGE);
        for (int far : FAR) {
            is("far", x.pledge(far, 1, 2, 1, 1), RANGE);
            is("far", x.pledge(0, far, 2, 1, 1), RANGE);
            is("far", x.pledge(0, 1, far, 1, 1), RANGE);
            is("far", x.pledge(0, 1, 2, far, 1), RANGE);
            is("far", x.pledge(0, 1, 2, 1, far), RANGE);
        }
        is("count", x.count(8), 2);
        for (int p = 2; p < 60; p++) {
            is("pledge", x.pledge(p % 30, 1, 2, 1, 84), p);
        }
        is("the 61st", x.pledge(0, 1, 2, 1, 1), FULL);
        is("the 61st, wrong", x.pledge(0, 0, 2, 1, 1), RANGE);
        is("count", x.count(8), 60);
    }

    private static void pledgeBehindTheLastMonth() {
        TowerAppeal x = made();
        x.pledge(0, 1000, 118, 1, 84);
        is("two come", x.about(0, 4), 2000);
        x.pledge(0, 1000, 119, 12, 84);
        is("one comes", x.about(1, 4), 1000);
        x.pledge(0, 1000, 0, 12, 84);
        is("ten come", x.about(2, 4), 10000);
        x.pledge(0, 1000, 36, 1, 84);
        is("84 come", x.about(3, 4), 84000);
        x.pledge(0, 1000, 37, 1, 84);
        is("83 come", x.about(4, 4), 83000);
        x.pledge(0, 100000, 0, 1, 84);
        is("the most", x.about(5, 4), 8400000);
    }

    private static void change() {
        TowerAppeal x = made();
        x.pledge(3, 1000, 0, 1, 5);
        x.pay(0, 2300);
        is("change", x.change(0, 400), 1);
        is("1", x.about(0, 1), 400);
        is("the due filled in part stays: 700, 400, 400", x.about(0, 4), 1500);
        x.months(3);
        is("the month's due too", x.change(0, 100000), 1);
        is("700, 400, 100000", x.about(0, 4), 101100);
        is("1", x.about(0, 1), 100000);
        is("pence 0", x.change(0, 0), RANGE);
        is("pence 100001", x.change(0, 100001), RANGE);
        is("p -1", x.change(-1, 1), RANGE);
        is("p 1", x.change(1, 1), RANGE);
        for (int far : FAR) {
            is("far", x.change(far, 1), RANGE);
            is("far", x.change(0, far), RANGE);
        }
        is("unchanged", x.about(0, 4), 101100);
        Check.tell(x, "lapse 1;");
        x.months(1);
        is("lapsed", x.change(0, 5), STATE);
        is("lapsed, wrong", x.change(0, 0), RANGE);
        is("1", x.about(0, 1), 100000);
        x.months(1);
        is("taken up, none to come", x.takeUp(0), 0);
        is("change", x.change(0, 7), 1);
        is("1", x.about(0, 1), 7);
    }

    private static void pay() {
        TowerAppeal x = made("match 33 2 1;");
        x.pledge(4, 500, 1, 2, 3);
        is("ahead of all", x.pay(0, 101), 33);
        is("filled", x.about(0, 3), 101);
        is("not filled", x.about(0, 4), 1399);
        x.months(1);
        is("overdue", x.about(0, 2), 1);
        is("fills the first", x.pay(0, 399), 131);
        is("overdue", x.about(0, 2), 0);
        is("the cap", x.pay(0, 600), 36);
        is("the cap is reached", x.pay(0, 399), 0);
        is("too much", x.pay(0, 2), RANGE);
        is("the last", x.pay(0, 1), 0);
        is("nothing more", x.pay(0, 1), RANGE);
        is("gave", x.giver(4, 0), 1500);
        is("coin", x.count(1), 1700);
        is("sums", x.count(11), 5);
    }

    private static void payWrong() {
        TowerAppeal x = made();
        is("none", x.pay(0, 1), RANGE);
        x.pledge(0, 100000, 0, 1, 84);
        is("p -1", x.pay(-1, 1), RANGE);
        is("p 1", x.pay(1, 1), RANGE);
        is("0", x.pay(0, 0), RANGE);
        is("5000001", x.pay(0, 5000001), RANGE);
        is("5000000", x.pay(0, 5000000), 0);
        for (int far : FAR) {
            is("far", x.pay(far, 1), RANGE);
            is("far", x.pay(0, far), RANGE);
        }
        for (int i = 1; i < 250; i++) {
            x.pay(0, 1);
        }
        is("sums", x.count(11), 250);
        is("the 251st", x.pay(0, 1), FULL);
        is("the 251st, too much", x.pay(0, 5000000), RANGE);
        is("filled", x.about(0, 3), 5000249);
        TowerAppeal y = made("lapse 1;");
        y.pledge(0, 10, 0, 1, 2);
        y.months(1);
        is("lapsed", y.pay(0, 1), STATE);
        is("lapsed, more than there was", y.pay(0, 1000), STATE);
        is("lapsed, 0", y.pay(0, 0), RANGE);
        is("sums", y.count(11), 0);
    }

    private static void gift() {
        TowerAppeal x = made();
        is("least", x.gift(0, 1), 0);
        is("most", x.gift(29, 5000000), 0);
        is("g -1", x.gift(-1, 1), RANGE);
        is("g 30", x.gift(30, 1), RANGE);
        is("0", x.gift(0, 0), RANGE);
        is("5000001", x.gift(0, 5000001), RANGE);
        for (int far : FAR) {
            is("far", x.gift(far, 1), RANGE);
            is("far", x.gift(0, far), RANGE);
        }
        is("coin", x.count(1), 5000001);
        for (int i = 2; i < 250; i++) {
            x.gift(1, 5000000);
        }
        is("the 251st", x.gift(1, 1), FULL);
        is("the 251st, wrong", x.gift(1, 0), RANGE);
        is("sums", x.count(11), 250);
        is("pence", x.count(3), 1245000001);
        is("gave", x.giver(1, 0), 1240000000);
    }

    private static void giftMatched() {
        TowerAppeal x = made("match 100 999999 2;");
        is("all", x.gift(0, 5000000), 5000000);
        x.months(2);
        is("in the month till", x.gift(0, 7), 7);
        x.months(1);
        is("behind it", x.gift(0, 7), 0);
        TowerAppeal y = made("match 7 1 119;");
        is("cut", y.gift(0, 99), 6);
        is("cut to none", y.gift(0, 14), 0);
        is("to the cap", y.gift(0, 5000000), 94);
        is("behind the cap", y.gift(0, 100), 0);
        is("matched", y.count(4), 100);
    }

    private static void takeUp() {
        TowerAppeal x = made("lapse 2;");
        x.pledge(0, 1000, 0, 1, 8);
        x.pay(0, 1200);
        x.change(0, 900);
        x.months(2);
        is("not lapsed", x.takeUp(0), STATE);
        x.months(1);
        is("lapsed", x.about(0, 5), 1);
        is("lapsed in", x.about(0, 6), 2);
        x.months(1);
        is("5, 6 and 7", x.takeUp(0), 3);
        is("not lapsed", x.about(0, 5), 0);
        is("as changed", x.about(0, 4), 2700);
        is("next", x.about(0, 7), 5);
        is("none overdue", x.about(0, 2), 0);
        is("filled", x.about(0, 3), 1200);
        is("lapsed first", x.about(0, 6), 2);
        is("again", x.takeUp(0), STATE);
        is("none such", x.takeUp(1), RANGE);
        is("none such", x.takeUp(-1), RANGE);
        for (int far : FAR) {
            is("far", x.takeUp(far), RANGE);
        }
        x.pay(0, 100);
        is("the earliest that is there", x.about(0, 4), 2600);
        x.months(1);
        is("overdue", x.about(0, 2), 1);
    }

    private static void takeUpOnce() {
        TowerAppeal x = made("lapse 1;");
        x.pledge(0, 1000, 0, 1, 8);
        x.months(1);
        is("first", x.takeUp(0), 6);
        x.months(2);
        is("not yet due again at 1, lapsed in 2", x.about(0, 5), 1);
        is("lapsed first", x.about(0, 6), 0);
        is("once", x.takeUp(0), STATE);
        is("pay", x.pay(0, 1), STATE);
        is("4", x.about(0, 4), 0);
        is("7", x.about(0, 7), NONE);
        is("lapsed now", x.count(9), 1);
    }

    private static void claim() {
        TowerAppeal x = made();
        x.declare(0, 0, 1);
        x.declare(1, 1, 1);
        x.gift(0, 199);
        x.gift(0, 199);
        x.gift(1, 1000);
        is("tax 0", x.claim(), 0);
        is("none is claimed", x.giver(0, 1), 398);
        Check.tell(x, "tax 25;");
        is("each cut by itself", x.claim(), 98);
        is("claimed", x.giver(0, 1), 0);
        is("not claimed", x.giver(1, 1), 1000);
        is("once", x.claim(), 0);
        x.months(1);
        x.gift(0, 3);
        x.gift(1, 100);
        is("a claim of nothing, and one", x.claim(), 25);
        is("claimed for nothing", x.giver(0, 1), 0);
        x.months(1);
        x.gift(0, 100);
        is("behind the span", x.claim(), 0);
        Check.tell(x, "tax 50;");
        x.declare(0, 0, 2);
        is("what was claimed stays", x.claim(), 50);
        x.declare(1, 0, 0);
        is("an earlier month", x.claim(), 500);
        is("tax", x.count(5), 673);
        is("coin", x.count(1), 199 + 199 + 1000 + 3 + 100 + 100 + 673);
        x.pledge(0, 40, 2, 1, 1);
        x.pay(0, 40);
        is("on a pledge", x.claim(), 20);
    }

    private static void about() {
        TowerAppeal x = made("lapse 2;");
        x.pledge(17, 300, 1, 3, 3);
        int[] fresh = {17, 300, 0, 0, 900, 0, NONE, 1};
        for (int what = 0; what < fresh.length; what++) {
            is("about " + what, x.about(0, what), fresh[what]);
        }
        is("what -1", x.about(0, -1), NONE);
        is("what 8", x.about(0, 8), NONE);
        is("p -1", x.about(-1, 0), NONE);
        is("p 1", x.about(1, 0), NONE);
        for (int far : FAR) {
            is("far", x.about(far, 0), NONE);
            is("far", x.about(0, far), NONE);
        }
        x.pay(0, 900);
        is("a due that is filled is due all the same", x.about(0, 7), 1);
        x.months(1);
        is("next", x.about(0, 7), 4);
        x.months(6);
        is("no next", x.about(0, 7), NONE);
        x.pledge(2, 10, 7, 1, 3);
        x.pay(1, 9);
        is("next", x.about(1, 7), 8);
        is("overdue: filled in part", x.about(1, 2), 1);
        x.months(2);
        int[] lapsed = {2, 10, 0, 9, 0, 1, 8, NONE};
        for (int what = 0; what < lapsed.length; what++) {
            is("about " + what, x.about(1, what), lapsed[what]);
        }
    }

    private static void giver() {
        TowerAppeal x = made("tax 10;");
        x.gift(5, 1000);
        x.declare(5, 0, 3);
        x.claim();
        x.gift(5, 500);
        x.nameless(5, true);
        int[] due = {1500, 500, 0, 3, 1};
        for (int what = 0; what < due.length; what++) {
            is("giver " + what, x.giver(5, what), due[what]);
        }
        int[] none = {0, 0, NONE, NONE, 0};
        for (int what = 0; what < none.length; what++) {
            is("giver " + what, x.giver(6, what), none[what]);
        }
        is("g -1", x.giver(-1, 0), RANGE);
        is("g 30", x.giver(30, 0), RANGE);
        is("what -1", x.giver(0, -1), RANGE);
        is("what 5", x.giver(0, 5), RANGE);
        for (int far : FAR) {
            is("far", x.giver(far, 0), RANGE);
            is("far", x.giver(0, far), RANGE);
        }
    }

    private static void stage() {
        TowerAppeal x = made();
        is("cost 0", x.stage(0, 1), RANGE);
        is("cost 100000001", x.stage(100000001, 1), RANGE);
        is("months 0", x.stage(1, 0), RANGE);
        is("months 25", x.stage(1, 25), RANGE);
        for (int far : FAR) {
            is("far", x.stage(far, 1), RANGE);
            is("far", x.stage(1, far), RANGE);
        }
        is("least", x.stage(1, 1), 0);
        is("most", x.stage(100000000, 24), 1);
        for (int s = 2; s < 8; s++) {
            is("stage", x.stage(s, s), s);
        }
        is("the ninth", x.stage(1, 1), FULL);
        is("the ninth, wrong", x.stage(0, 1), RANGE);
        is("count", x.count(10), 8);
        x.stop();
        is("stopped, full", x.stage(1, 1), STATE);
        is("stopped, wrong", x.stage(1, 25), RANGE);
    }

    private static void begin() {
        TowerAppeal x = made();
        is("none", x.begin(), STATE);
        x.stage(10, 1);
        x.stage(10, 2);
        is("first", x.begin(), 0);
        is("runs", x.begin(), STATE);
        x.months(1);
        is("paused, runs", x.begin(), STATE);
        x.gift(0, 15);
        x.months(1);
        is("second", x.begin(), 1);
        x.months(1);
        is("runs", x.begin(), STATE);
        x.gift(0, 5);
        x.months(1);
        is("none left", x.begin(), STATE);
        x.stage(1, 1);
        is("one more", x.begin(), 2);
        TowerAppeal y = made();
        y.stage(1, 1);
        y.stop();
        is("stopped", y.begin(), STATE);
        is("not begun", y.built(0, 2), 0);
    }

    private static void built() {
        TowerAppeal x = made();
        x.stage(77, 3);
        int[] fresh = {77, 3, 0, 0, 0};
        for (int what = 0; what < fresh.length; what++) {
            is("built " + what, x.built(0, what), fresh[what]);
        }
        is("what -1", x.built(0, -1), NONE);
        is("what 5", x.built(0, 5), NONE);
        is("s -1", x.built(-1, 0), NONE);
        is("s 1", x.built(1, 0), NONE);
        for (int far : FAR) {
            is("far", x.built(far, 0), NONE);
            is("far", x.built(0, far), NONE);
        }
        x.begin();
        is("runs", x.built(0, 2), 1);
        x.months(2);
        is("paused", x.built(0, 4), 2);
        x.gift(0, 77);
        x.months(2);
        is("paid", x.built(0, 3), 50);
        is("runs", x.built(0, 2), 1);
        x.months(1);
        is("paid", x.built(0, 3), 77);
        is("built", x.built(0, 2), 2);
        is("paused", x.built(0, 4), 2);
        x.stop();
        is("stopped", x.built(0, 2), 2);
    }

    private static void builtParts() {
        TowerAppeal x = made();
        x.stage(5, 3);
        x.stage(2, 4);
        x.gift(0, 6);
        x.begin();
        x.months(1);
        is("1", x.built(0, 3), 1);
        x.months(1);
        is("1, 1", x.built(0, 3), 2);
        x.months(1);
        is("1, 1, 3", x.built(0, 3), 5);
        x.begin();
        x.months(3);
        is("0, 0, 0", x.built(1, 3), 0);
        is("parts of nothing are paid", x.built(1, 4), 0);
        x.months(1);
        is("the last is not", x.built(1, 4), 1);
        x.gift(0, 1);
        x.months(1);
        is("2", x.built(1, 3), 2);
        is("built", x.built(1, 2), 2);
    }

    private static void months() {
        TowerAppeal x = made();
        is("0", x.months(0), RANGE);
        is("25", x.months(25), RANGE);
        for (int far : FAR) {
            is("far", x.months(far), RANGE);
        }
        for (int month = 24; month <= 96; month += 24) {
            is("24", x.months(24), month);
        }
        is("beyond", x.months(24), RANGE);
        is("month", x.count(0), 96);
        is("to the last", x.months(23), 119);
        is("beyond", x.months(1), RANGE);
        TowerAppeal y = made();
        y.stop();
        is("stopped", y.months(1), STATE);
        is("stopped, wrong", y.months(0), RANGE);
        is("month", y.count(0), 0);
    }

    private static void monthsLapse() {
        TowerAppeal x = made();
        x.pledge(0, 10, 0, 1, 84);
        x.pledge(0, 10, 0, 2, 84);
        x.pledge(0, 10, 0, 1, 2);
        x.months(2);
        is("none yet", x.count(9), 0);
        x.pay(0, 1);
        x.months(1);
        is("three overdue", x.about(0, 6), 2);
        is("lapsed", x.count(9), 1);
        x.months(2);
        is("dues in 0, 2, 4", x.about(1, 6), 4);
        x.months(24);
        is("two dues never are three", x.about(2, 5), 0);
        Check.tell(x, "lapse 2;");
        is("not before a month ends", x.about(2, 5), 0);
        x.months(1);
        is("by the trust as it is now", x.about(2, 6), 29);
        is("lapsed", x.count(9), 3);
        TowerAppeal y = made("lapse 1;");
        y.pledge(0, 10, 0, 1, 3);
        y.pay(0, 20);
        y.months(2);
        is("paid ahead", y.about(0, 5), 0);
        y.months(1);
        is("lapsed", y.about(0, 6), 2);
    }

    private static void monthsLoan() {
        TowerAppeal x = made("loan 10 10;");
        x.stage(2000, 2);
        x.begin();
        x.months(1);
        is("all may be drawn", x.count(2), 1000);
        is("coin", x.count(1), 0);
        is("paid", x.count(6), 1000);
        x.gift(0, 999);
        x.months(1);
        is("grown to 1010: nothing may be drawn", x.built(0, 4), 1);
        is("coin pays back", x.count(2), 11);
        is("grown", x.count(7), 10);
        is("coin", x.count(1), 0);
        x.months(1);
        is("11 grow by nothing; 989 may be drawn", x.built(0, 4), 2);
        x.gift(0, 11);
        x.months(1);
        is("11 and 989", x.built(0, 2), 2);
        is("loan", x.count(2), 1000);
        is("coin", x.count(1), 0);
        x.gift(0, 2000);
        x.months(1);
        is("paid back", x.count(2), 0);
        is("coin", x.count(1), 990);
        is("grown", x.count(7), 20);
        TowerAppeal y = made("loan 20 0;");
        y.stage(3000, 2);
        y.begin();
        y.months(1);
        Check.tell(y, "loan 1 5;");
        y.gift(0, 1500);
        y.months(1);
        is("coin pays the part, though the loan is above its most", y.built(0, 2), 2);
        is("loan grew by 7", y.count(2), 1507);
    }

    private static void sure() {
        TowerAppeal x = made();
        x.pledge(0, 300, 0, 1, 84);
        x.pledge(1, 100, 1, 3, 2);
        is("0", x.sure(0), RANGE);
        is("85", x.sure(85), RANGE);
        for (int far : FAR) {
            is("far", x.sure(far), RANGE);
        }
        is("nothing filled", x.sure(84), 0);
        x.pay(0, 100);
        is("(300 + 100) / 3, cut", x.sure(1), 133);
        is("84 months: (83 * 300 + 200) / 3", x.sure(84), 8366);
        x.pay(0, 350);
        is("150 of 300 are filled ahead", x.sure(1), 250);
        is("behind the clock counts for nothing yet", x.sure(2), 550);
        x.months(1);
        is("450 of 700, 300", x.sure(1), 192);
        TowerAppeal y = made();
        y.pledge(0, 100, 5, 1, 2);
        y.pay(0, 100);
        is("none was due", y.sure(6), 0);
        y.months(24);
        y.months(24);
        is("none to come", y.sure(84), 0);
        y.stop();
        is("stopped", y.sure(84), 0);
        TowerAppeal w = made();
        w.pledge(0, 1, 0, 1, 3);
        w.pay(0, 1);
        is("a penny was due", w.sure(2), 2);
        TowerAppeal z = made();
        z.pledge(0, 100000, 0, 1, 84);
        for (int p = 1; p < 60; p++) {
            z.pledge(0, 100000, 0, 1, 84);
            z.pay(p, 5000000);
        }
        z.pay(0, 4900000);
        z.pay(0, 100000);
        z.months(24);
        z.months(24);
        is("large sums", z.sure(84), 60L * (35 * 100000 - 100000));
        z.stop();
        is("large sums, stopped", z.sure(84), 60L * (35 * 100000 - 100000));
    }

    private static void sureOfLapsed() {
        TowerAppeal x = made("lapse 2;");
        x.pledge(0, 100, 0, 1, 10);
        x.pledge(1, 100, 0, 1, 10);
        x.pay(0, 150);
        x.pay(1, 1000);
        x.months(5);
        is("lapsed in", x.about(0, 6), 2);
        x.pledge(2, 1000, 6, 1, 10);
        is("150 + 600 of 300 + 600", x.sure(1), 1000 * 750 / 900);
        x.months(1);
        is("taken up", x.takeUp(0), 3);
        x.pay(2, 1000);
        is("150 + 700 + 1000 of 300 + 700 + 1000", x.sure(1), 1100 * 1850 / 2000);
        x.months(1);
        is("those there again too", x.sure(1), 1100L * (150 + 800 + 1000) / (300 + 100 + 800 + 2000));
        x.pay(0, 60);
        is("what they are filled with too", x.sure(1), 1100L * (210 + 800 + 1000) / (400 + 800 + 2000));
    }

    private static void sureOfLapsedTwice() {
        TowerAppeal x = made("lapse 1;");
        x.pledge(0, 100, 0, 1, 20);
        x.pledge(1, 100, 0, 1, 20);
        x.pay(0, 150);
        x.pay(1, 2000);
        x.months(4);
        is("lapsed in", x.about(0, 6), 1);
        is("taken up", x.takeUp(0), 15);
        x.pay(0, 130);
        x.months(4);
        is("lapsed once more, in 6", x.about(0, 5), 1);
        x.pledge(2, 1000, 9, 1, 1);
        // Due of PLEDGE 0: months 0, 1; 5, 6. Filled: 100, 50; 100, 30.
        is("sure", x.sure(1), 1000L * (280 + 900) / (400 + 900));
    }

    private static void stone() {
        TowerAppeal x = made("stone 10;");
        x.gift(7, 999);
        is("a penny less", x.stone(0), NONE);
        x.gift(3, 1000);
        x.gift(7, 1);
        x.gift(5, 600);
        x.pledge(5, 400, 0, 1, 1);
        x.pay(0, 400);
        int[] due = {3, 7, 5, NONE};
        stonesAre(x, due);
        is("-1", x.stone(-1), NONE);
        for (int far : FAR) {
            is("far", x.stone(far), NONE);
        }
        x.nameless(3, true);
        stonesAre(x, 7, 5, NONE);
        x.nameless(3, false);
        stonesAre(x, due);
        Check.tell(x, "stone 6;");
        stonesAre(x, 7, 3, 5, NONE);
        Check.tell(x, "match 100 999 119;tax 50;");
        x.gift(9, 50000);
        x.declare(9, 0, 119);
        x.claim();
        stonesAre(x, NONE);
        x.gift(9, 50000);
        stonesAre(x, 9, NONE);
        x.stop();
        stonesAre(x, 9, NONE);
        Check.tell(x, "stone 10;");
        stonesAre(x, 3, 7, 5, 9, NONE);
        TowerAppeal y = made("stone 1;");
        for (int g = 29; g >= 0; g--) {
            y.gift(g, 100);
        }
        is("thirty", y.count(14), 30);
        is("the last", y.stone(29), 0);
        is("behind it", y.stone(30), NONE);
        TowerAppeal z = made("stone 999999;");
        for (int i = 0; i < 20; i++) {
            z.gift(0, i < 19 ? 5000000 : 4999899);
        }
        is("a penny less", z.stone(0), NONE);
        z.gift(0, 1);
        is("the most", z.stone(0), 0);
    }

    private static void stonesAre(TowerAppeal x, int... due) {
        for (int i = 0; i < due.length; i++) {
            is("stone " + i, x.stone(i), due[i]);
        }
        is("count", x.count(14), due.length - 1);
    }

    private static void stop() {
        TowerAppeal x = made("stop all;match 50 100 119;");
        x.gift(0, 1001);
        x.gift(1, 999);
        is("all, more than enough", x.stop(), 2000);
        is("back", x.back(0), 1001);
        is("back", x.back(1), 999);
        is("coin", x.count(1), 999);
        is("again", x.stop(), STATE);
        is("coin", x.count(1), 999);
        is("stopped", x.count(12), 1);
        TowerAppeal y = made("match 50 100 119;stop left;");
        y.gift(0, 1001);
        y.gift(1, 999);
        is("left, more than was given", y.stop(), 1500 + 1498);
        is("back", y.back(0), 2999L * 1001 / 2000);
        is("back", y.back(1), 2999L * 999 / 2000);
        is("coin", y.count(1), 1);
        TowerAppeal z = made();
        is("none gave", z.stop(), 0);
        is("back", z.back(0), 0);
        TowerAppeal w = made("stop all;");
        is("none gave", w.stop(), 0);
        TowerAppeal v = made();
        v.gift(0, 1);
        is("a penny", v.stop(), 1);
    }

    private static void stopShares() {
        TowerAppeal x = made("stop all;");
        x.stage(1, 1);
        x.begin();
        x.gift(0, 1000);
        x.gift(1, 1000);
        x.gift(0, 1000);
        x.months(1);
        is("all, a penny short", x.stop(), 2998);
        is("back", x.back(0), 2999L * 2 / 3);
        is("back", x.back(1), 2999 / 3);
        is("coin", x.count(1), 1);
        TowerAppeal y = made("stop all;loan 100 0;");
        y.stage(1000, 1);
        y.begin();
        y.months(1);
        y.gift(2, 50);
        is("the loan stays", y.stop(), 50);
        is("loan", y.count(2), 1000);
        TowerAppeal z = made("match 100 999999 119;tax 50;");
        z.declare(0, 0, 119);
        for (int i = 0; i < 250; i++) {
            z.gift(0, 5000000);
        }
        z.claim();
        is("the most", z.stop(), 1250000000L + 99999900 + 625000000);
        is("back", z.back(0), 1974999900L);
        is("coin", z.count(1), 0);
    }

    private static void back() {
        TowerAppeal x = made();
        x.gift(29, 100);
        is("ahead of stop", x.back(29), 0);
        x.stop();
        is("back", x.back(29), 100);
        is("gave nothing", x.back(0), 0);
        is("-1", x.back(-1), RANGE);
        is("30", x.back(30), RANGE);
        for (int far : FAR) {
            is("far", x.back(far), RANGE);
        }
    }

    private static void count() {
        TowerAppeal x = made("match 10 999 119;tax 20;lapse 1;loan 50 10;stone 1;");
        x.pledge(0, 1000, 0, 1, 2);
        x.pledge(1, 500, 0, 1, 3);
        x.pay(0, 1500);
        x.declare(0, 0, 0);
        x.claim();
        x.stage(8000, 2);
        x.stage(1, 1);
        x.begin();
        x.months(2);
        x.gift(2, 99);
        x.feed(0, 0, 0, 0, 0);
        // In month 0: 1500 + 150 + 300 of 4000, 2050 drawn. In month 1: grown by 20, 2930 can't be as much as 4000.
        int[] due = {2, 108, 2070, 1599, 159, 300, 4000, 20, 2, 2, 2, 2, 0, 20, 1};
        for (int what = 0; what < due.length; what++) {
            is("count " + what, x.count(what), due[what]);
        }
        is("-1", x.count(-1), NONE);
        is("15", x.count(15), NONE);
        for (int far : FAR) {
            is("far", x.count(far), NONE);
        }
        x.takeUp(0);
        is("one lapsed now", x.count(9), 1);
    }

    /** Of givers, pledges and sums all is STATE when STOPPED, behind RANGE. */
    private static void stoppedGroup() {
        TowerAppeal x = made("lapse 1;");
        x.pledge(0, 100, 0, 1, 3);
        x.pledge(0, 100, 1, 1, 3);
        x.months(1);
        x.stop();
        is("declare", x.declare(0, 0, 1), STATE);
        is("declare, wrong", x.declare(0, 1, 0), RANGE);
        is("nameless", x.nameless(0, true), STATE);
        is("nameless, wrong", x.nameless(30, true), RANGE);
        is("pledge", x.pledge(0, 1, 1, 1, 1), STATE);
        is("pledge, wrong", x.pledge(0, 1, 0, 1, 1), RANGE);
        is("change", x.change(1, 1), STATE);
        is("change, wrong", x.change(2, 1), RANGE);
        is("pay", x.pay(1, 300), STATE);
        is("pay, too much", x.pay(1, 301), RANGE);
        is("pay, lapsed", x.pay(0, 301), STATE);
        is("gift", x.gift(0, 1), STATE);
        is("gift, wrong", x.gift(0, 0), RANGE);
        is("takeUp", x.takeUp(0), STATE);
        is("takeUp, wrong", x.takeUp(2), RANGE);
        is("claim", x.claim(), STATE);
        is("about", x.about(0, 0), STATE);
        is("about, none such", x.about(2, 0), STATE);
        is("giver", x.giver(0, 0), STATE);
        is("giver, wrong", x.giver(0, 5), RANGE);
        is("pledges", x.count(8), 2);
        is("sums", x.count(11), 0);
    }
}
