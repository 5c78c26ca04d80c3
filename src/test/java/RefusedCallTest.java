import java.util.ArrayList;
import java.util.List;
import java.util.function.Supplier;
import java.util.function.ToIntFunction;

/**
 * A call that is refused, or that only asks, changes nothing: an object that heard it answers all that follows as one
 * that never heard it does.
 */
public final class RefusedCallTest {
    private static final int NONE = TowerAppeal.NONE;
    private static final int RANGE = TowerAppeal.RANGE;
    private static final int FULL = TowerAppeal.FULL;
    private static final int STATE = TowerAppeal.STATE;
    private static final int[] FAR = {Integer.MIN_VALUE, -1, Integer.MAX_VALUE};
    private static final Check CHECK = new Check("refused calls");

    public static void main(String[] args) {
        refusedByNumbers("new", RefusedCallTest::fresh, 0);
        refusedByNumbers("busy", RefusedCallTest::busy, 0);
        refusedByNumbers("full", RefusedCallTest::full, 1);
        refusedByNumbers("at the end", RefusedCallTest::atTheEnd, 119);
        refusedByNumbers("stopped", RefusedCallTest::stopped, 0);
        refusedAsThingsAre();
        refusedWhenFull();
        refusedInTheLastMonth();
        refusedWhenStopped();
        questions("new", RefusedCallTest::fresh);
        questions("busy", RefusedCallTest::busy);
        questions("at the end", RefusedCallTest::atTheEnd);
        questions("stopped", RefusedCallTest::stopped);
        CHECK.finish();
    }

    private static TowerAppeal fresh() {
        return new TowerAppeal();
    }

    /** PLEDGES 0: paid in part, 1: lapsed, 2: taken up, 3: lapsed twice, 4: all filled; a STAGE built, one that runs. */
    private static TowerAppeal busy() {
        TowerAppeal x = CHECK.made("match 50 20 6;tax 25;lapse 2;loan 40 10;stone 5;stop all;");
        x.pledge(0, 300, 2, 1, 40);
        x.pledge(1, 200, 0, 1, 40);
        x.pledge(2, 100, 0, 1, 40);
        x.pledge(0, 100, 0, 1, 40);
        x.pledge(29, 70, 0, 3, 10);
        x.pay(0, 1250);
        x.pay(4, 700);
        x.declare(0, 0, 3);
        x.nameless(29, true);
        x.gift(1, 999);
        x.stage(1000, 2);
        x.stage(9000, 4);
        x.stage(100, 1);
        x.begin();
        x.months(2);
        x.takeUp(3);
        x.begin();
        x.claim();
        x.months(2);
        x.takeUp(2);
        x.months(1);
        x.gift(2, 600);
        Check.tell(x, "tax 1;tax 2;");
        Check.put(x, " lapse 1;stone 7;");
        return x;
    }

    private static TowerAppeal full() {
        TowerAppeal x = CHECK.made("match 50 1 0;lapse 2;stone 1;");
        for (int p = 0; p < 60; p++) {
            x.pledge(p % 30, 100 + p, p % 3, 1, 9);
        }
        for (int i = 0; i < 240; i++) {
            x.gift(i % 7, 10 + i);
        }
        for (int p = 0; p < 10; p++) {
            x.pay(3 * p, 90);
        }
        for (int s = 0; s < 8; s++) {
            x.stage(2000 + s, 2);
        }
        x.begin();
        x.months(1);
        Check.put(x, " ".repeat(388) + "tax 1;tax 2;");
        return x;
    }

    private static TowerAppeal atTheEnd() {
        TowerAppeal x = CHECK.made("lapse 12;loan 3 1;");
        x.pledge(0, 100, 118, 1, 2);
        x.stage(900, 2);
        x.gift(2, 400);
        x.begin();
        Check.pass(x, 119);
        return x;
    }

    private static TowerAppeal stopped() {
        TowerAppeal x = busy();
        x.stop();
        return x;
    }

    private static List<Integer> answers(TowerAppeal x) {
        List<Integer> all = new ArrayList<>();
        lookAt(x, all);
        all.add(x.gift(0, 101));
        for (int p = 0; p < 5; p++) {
            all.add(x.pay(p, 33));
        }
        all.add(x.claim());
        all.add(x.begin());
        all.add(x.takeUp(1));
        all.add(x.change(2, 77));
        all.add(x.months(1));
        all.add(x.pledge(3, 11, 20, 1, 2));
        all.add(x.stage(10, 1));
        all.add(x.trust());
        all.add(x.fault(0));
        all.add(x.fault(1));
        all.add(x.rule(3));
        all.add(x.rule(7));
        for (int what = 0; what <= 14; what++) {
            all.add(x.count(what));
        }
        all.add(x.stop());
        for (int g = 0; g < 3; g++) {
            all.add(x.back(g));
        }
        return all;
    }

    private static void lookAt(TowerAppeal x, List<Integer> all) {
        for (int what = 0; what <= 14; what++) {
            all.add(x.count(what));
        }
        for (int what = 0; what <= 8; what++) {
            all.add(x.rule(what));
        }
        all.add(x.fault(0));
        all.add(x.fault(1));
        for (int g : new int[] {0, 1, 29}) {
            for (int what = 0; what <= 4; what++) {
                all.add(x.giver(g, what));
            }
            all.add(x.back(g));
        }
        for (int p = 0; p < 5; p++) {
            for (int what = 1; what <= 7; what++) {
                all.add(x.about(p, what));
            }
        }
        for (int s = 0; s < 2; s++) {
            for (int what = 0; what <= 4; what++) {
                all.add(x.built(s, what));
            }
            all.add(x.stone(s));
        }
        all.add(x.sure(1));
        all.add(x.sure(84));
    }

    private static void refused(String call, Supplier<TowerAppeal> make, ToIntFunction<TowerAppeal> refused, int due) {
        TowerAppeal heard = make.get();
        CHECK.is(call, refused.applyAsInt(heard), due);
        changedNothing(call, make, heard);
    }

    private static void changedNothing(String call, Supplier<TowerAppeal> make, TowerAppeal heard) {
        List<Integer> got = answers(heard);
        List<Integer> want = answers(make.get());
        CHECK.isTrue(call + " changed what follows: " + got + ", due is " + want, got.equals(want));
    }

    private static void refusedByNumbers(String name, Supplier<TowerAppeal> make, int firstMonth) {
        for (int far : FAR) {
            refused(name + ", end", make, x -> x.end(far), NONE);
            refused(name + ", declare g", make, x -> x.declare(far, 0, 119), RANGE);
            refused(name + ", declare from", make, x -> x.declare(0, far, 119), RANGE);
            refused(name + ", nameless", make, x -> x.nameless(far, true), RANGE);
            refused(name + ", pledge g", make, x -> x.pledge(far, 1, 119, 1, 1), RANGE);
            refused(name + ", pledge first", make, x -> x.pledge(0, 1, far, 1, 1), RANGE);
            refused(name + ", change p", make, x -> x.change(far, 1), RANGE);
            refused(name + ", pay p", make, x -> x.pay(far, 1), RANGE);
            refused(name + ", gift g", make, x -> x.gift(far, 1), RANGE);
            refused(name + ", takeUp p", make, x -> x.takeUp(far), RANGE);
            refused(name + ", months", make, x -> x.months(far), RANGE);
        }
        refused(name + ", declare to", make, x -> x.declare(0, 0, 120), RANGE);
        refused(name + ", declare from above to", make, x -> x.declare(0, 1, 0), RANGE);
        refused(name + ", nameless", make, x -> x.nameless(30, false), RANGE);
        refused(name + ", pledge pence", make, x -> x.pledge(0, 0, 119, 1, 1), RANGE);
        refused(name + ", pledge pence", make, x -> x.pledge(0, 100001, 119, 1, 1), RANGE);
        refused(name + ", pledge first", make, x -> x.pledge(0, 1, firstMonth - 1, 1, 1), RANGE);
        refused(name + ", pledge first", make, x -> x.pledge(0, 1, 120, 1, 1), RANGE);
        refused(name + ", pledge every", make, x -> x.pledge(0, 1, 119, 0, 1), RANGE);
        refused(name + ", pledge every", make, x -> x.pledge(0, 1, 119, 13, 1), RANGE);
        refused(name + ", pledge dues", make, x -> x.pledge(0, 1, 119, 1, 0), RANGE);
        refused(name + ", pledge dues", make, x -> x.pledge(0, 1, 119, 1, 85), RANGE);
        refused(name + ", change p", make, x -> x.change(60, 1), RANGE);
        refused(name + ", change pence", make, x -> x.change(0, 0), RANGE);
        refused(name + ", change pence", make, x -> x.change(0, 100001), RANGE);
        refused(name + ", pay p", make, x -> x.pay(60, 1), RANGE);
        refused(name + ", pay pence", make, x -> x.pay(0, 0), RANGE);
        refused(name + ", pay pence", make, x -> x.pay(0, 5000001), RANGE);
        refused(name + ", pay too much", make, x -> x.pay(0, 5000000), RANGE);
        refused(name + ", gift pence", make, x -> x.gift(0, 0), RANGE);
        refused(name + ", gift pence", make, x -> x.gift(0, 5000001), RANGE);
        refused(name + ", stage cost", make, x -> x.stage(0, 1), RANGE);
        refused(name + ", stage cost", make, x -> x.stage(100000001, 1), RANGE);
        refused(name + ", stage months", make, x -> x.stage(1, 0), RANGE);
        refused(name + ", stage months", make, x -> x.stage(1, 25), RANGE);
        refused(name + ", months", make, x -> x.months(0), RANGE);
        refused(name + ", months", make, x -> x.months(25), RANGE);
    }

    private static void refusedAsThingsAre() {
        refused("new, begin", RefusedCallTest::fresh, TowerAppeal::begin, STATE);
        refused("new, end", RefusedCallTest::fresh, x -> x.end(1), NONE);
        refused("busy, end", RefusedCallTest::busy, x -> x.end(18), NONE);
        refused("busy, begin", RefusedCallTest::busy, TowerAppeal::begin, STATE);
        refused("busy, no such pledge", RefusedCallTest::busy, x -> x.pay(5, 1), RANGE);
        for (int p : new int[] {1, 3}) {
            refused("busy, change a lapsed one", RefusedCallTest::busy, x -> x.change(p, 1), STATE);
            refused("busy, pay on a lapsed one", RefusedCallTest::busy, x -> x.pay(p, 1), STATE);
        }
        for (int p : new int[] {0, 2, 3, 4}) {
            refused("busy, takeUp", RefusedCallTest::busy, x -> x.takeUp(p), STATE);
        }
        refused("busy, pay on a filled one", RefusedCallTest::busy, x -> x.pay(4, 1), RANGE);
        refused("busy, pay a penny too much", RefusedCallTest::busy, x -> x.pay(0, x.about(0, 4) + 1), RANGE);
        refused("busy, claim again", RefusedCallTest::claimed, TowerAppeal::claim, 0);
    }

    private static TowerAppeal claimed() {
        TowerAppeal x = busy();
        x.claim();
        return x;
    }

    private static void refusedWhenFull() {
        refused("full, feed", RefusedCallTest::full, x -> x.feed(1, 2, 3, 4, 5), FULL);
        refused("full, end", RefusedCallTest::full, x -> x.end(401), NONE);
        refused("full, pledge", RefusedCallTest::full, x -> x.pledge(0, 1, 119, 1, 1), FULL);
        refused("full, pay", RefusedCallTest::full, x -> x.pay(0, 1), FULL);
        refused("full, gift", RefusedCallTest::full, x -> x.gift(0, 1), FULL);
        refused("full, stage", RefusedCallTest::full, x -> x.stage(1, 1), FULL);
    }

    private static void refusedInTheLastMonth() {
        refused("at the end, months", RefusedCallTest::atTheEnd, x -> x.months(1), RANGE);
        refused("at the end, months", RefusedCallTest::atTheEnd, x -> x.months(24), RANGE);
        refused("at the end, takeUp", RefusedCallTest::atTheEnd, x -> x.takeUp(0), STATE);
    }

    private static void refusedWhenStopped() {
        refused("stopped, declare", RefusedCallTest::stopped, x -> x.declare(0, 0, 0), STATE);
        refused("stopped, nameless", RefusedCallTest::stopped, x -> x.nameless(0, true), STATE);
        refused("stopped, nameless", RefusedCallTest::stopped, x -> x.nameless(29, false), STATE);
        refused("stopped, pledge", RefusedCallTest::stopped, x -> x.pledge(0, 1, 119, 1, 1), STATE);
        refused("stopped, change", RefusedCallTest::stopped, x -> x.change(0, 1), STATE);
        refused("stopped, pay", RefusedCallTest::stopped, x -> x.pay(0, 1), STATE);
        refused("stopped, gift", RefusedCallTest::stopped, x -> x.gift(0, 1), STATE);
        refused("stopped, takeUp", RefusedCallTest::stopped, x -> x.takeUp(1), STATE);
        refused("stopped, claim", RefusedCallTest::stopped, TowerAppeal::claim, STATE);
        refused("stopped, stage", RefusedCallTest::stopped, x -> x.stage(1, 1), STATE);
        refused("stopped, begin", RefusedCallTest::stopped, TowerAppeal::begin, STATE);
        refused("stopped, months", RefusedCallTest::stopped, x -> x.months(1), STATE);
        refused("stopped, stop", RefusedCallTest::stopped, TowerAppeal::stop, STATE);
    }

    /** Questions change nothing either, with numbers that can't be too. */
    private static void questions(String name, Supplier<TowerAppeal> make) {
        TowerAppeal asked = make.get();
        for (int n : new int[] {Integer.MIN_VALUE, -1, 0, 14, Integer.MAX_VALUE}) {
            asked.fault(n);
            asked.rule(n);
            asked.about(n, 0);
            asked.about(0, n);
            asked.giver(n, 0);
            asked.giver(0, n);
            asked.built(n, 0);
            asked.built(0, n);
            asked.sure(n);
            asked.stone(n);
            asked.back(n);
            asked.count(n);
        }
        changedNothing(name + ", questions", make, asked);
    }
}
