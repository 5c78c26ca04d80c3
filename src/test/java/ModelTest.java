import java.util.Random;

/** Runs of just 512 random calls on the class and on the model: every answer is the same, and none throws. */
public final class ModelTest {
    private static final int RUNS = 3000;
    // What an object answers behind its 512th call is free.
    private static final int CALLS = 512;
    // The last calls of a run: stop, back of each giver, the coin.
    private static final int LAST_CALLS = 32;
    // More than telling a text takes.
    private static final int CALLS_OF_A_TEXT = 40;
    private static final int[] EDGES = {
        Integer.MIN_VALUE, Integer.MAX_VALUE, -2, -1, 0, 1, 2, 7, 8, 12, 13, 24, 25, 29, 30, 59, 60, 84, 85,
        119, 120, 249, 250, 399, 400, 100000, 100001, 5000000, 5000001, 100000000, 100000001,
    };
    private static final String[] WORDS = {"match", "tax", "lapse", "loan", "stone", "stop", "all", "left"};
    private static final String[] PIECES = {
        " ", "\n", ";", "match", "tax", "lapse", "loan", "stone", "stop", "all", "left", "0", "1", "12", "13", "50",
        "51", "119", "120", "999999", "1000000", "A", "al", "lefts", ".", "-",
    };

    private final Check check = new Check("model");
    private Random random;
    private TowerAppeal x;
    private Model m;
    private int run;
    private int calls;
    // How large this run's sums are, how often months end in it, and the call that comes most often (none below 0).
    private int wealth;
    private int haste;
    private int stopOdds;
    private int favourite;

    public static void main(String[] args) {
        ModelTest test = new ModelTest();
        for (int run = 0; run < RUNS; run++) {
            test.oneRun(run);
        }
        test.check.finish();
    }

    private void oneRun(int number) {
        run = number;
        calls = 0;
        random = new Random(number);
        x = new TowerAppeal();
        m = new Model();
        wealth = new int[] {100, 2000, 100000, 5000000}[random.nextInt(4)];
        haste = 1 + random.nextInt(12);
        stopOdds = random.nextBoolean() ? 300 : 100000;
        favourite = random.nextInt(48) - 24;
        if (random.nextInt(4) > 0) {
            tell(goodText());
        }
        int questionsFrom = CALLS - LAST_CALLS - random.nextInt(200);
        while (calls < questionsFrom) {
            oneCall();
        }
        while (calls < CALLS - LAST_CALLS) {
            oneQuestion();
        }
        if (calls <= CALLS - LAST_CALLS) {
            lastCalls();
        }
        check.isTrue("run " + run + " has " + calls + " calls", calls <= CALLS);
    }

    /** Each call on the class is compared just once, so this counts them. */
    private void same(String call, int got, int want) {
        calls++;
        check.is("run " + run + " " + call, got, want);
    }

    private boolean odds(int one) {
        return random.nextInt(one) == 0;
    }

    private int upTo(int n) {
        return random.nextInt(n + 1);
    }

    /** A number from .. to, seldom another. */
    private int within(int from, int to) {
        if (odds(40)) {
            return EDGES[random.nextInt(EDGES.length)];
        }
        if (odds(30)) {
            return odds(2) ? from - 1 : to + 1;
        }
        return to < from || from < 0 ? from : from + random.nextInt(to - from + 1);
    }

    private int giverNumber() {
        return within(0, odds(3) ? 29 : 3);
    }

    private int pledgeNumber() {
        return within(0, Math.max(0, m.count(8) - 1));
    }

    private int sumPence() {
        return within(1, Math.min(5000000, 1 + upTo(wealth)));
    }

    private void oneCall() {
        int kind = favourite >= 0 && !odds(4) ? favourite : random.nextInt(24 + haste);
        if (kind >= 24) {
            int n = within(1, odds(6) ? 24 : 2);
            same("months(" + n + ")", x.months(n), m.months(n));
        } else if (kind < 12) {
            money(kind);
        } else {
            other(kind);
        }
    }

    private void money(int kind) {
        int g = giverNumber();
        int p = pledgeNumber();
        switch (kind) {
            case 0, 1 -> {
                int pence = within(1, Math.min(100000, 1 + upTo(wealth)));
                int first = within(m.count(0), Math.min(119, m.count(0) + (odds(5) ? 119 : 4)));
                int every = within(1, odds(2) ? 2 : 12);
                int dues = within(1, odds(3) ? 84 : 12);
                same("pledge", x.pledge(g, pence, first, every, dues), m.pledge(g, pence, first, every, dues));
            }
            case 2, 3, 4, 5 -> {
                int due = Math.max(1, m.about(p, 1));
                int open = Math.max(1, m.about(p, 4));
                int pence = odds(10) ? open + upTo(1) : odds(2) ? within(1, 3 * due) : due;
                same("pay(" + p + ", " + pence + ")", x.pay(p, pence), m.pay(p, pence));
            }
            case 6, 7 -> {
                int pence = sumPence();
                same("gift(" + g + ", " + pence + ")", x.gift(g, pence), m.gift(g, pence));
            }
            case 8 -> {
                int pence = within(1, Math.min(100000, 1 + upTo(wealth)));
                same("change(" + p + ", " + pence + ")", x.change(p, pence), m.change(p, pence));
            }
            case 9 -> {
                int lapsed = lapsedPledge(p);
                same("takeUp(" + lapsed + ")", x.takeUp(lapsed), m.takeUp(lapsed));
            }
            case 10 -> same("claim", x.claim(), m.claim());
            default -> {
                int from = within(0, 60);
                int to = within(from, 119);
                same("declare", x.declare(g, from, to), m.declare(g, from, to));
            }
        }
    }

    private int lapsedPledge(int otherwise) {
        for (int p = 0; p < m.count(8); p++) {
            if (m.about(p, 5) == 1 && odds(2)) {
                return p;
            }
        }
        return otherwise;
    }

    private void other(int kind) {
        int g = giverNumber();
        int p = pledgeNumber();
        int what = within(0, 7);
        switch (kind) {
            case 12, 13, 14 -> same("about(" + p + ", " + what + ")", x.about(p, what), m.about(p, what));
            case 15 -> {
                int n = within(0, 4);
                same("giver(" + g + ", " + n + ")", x.giver(g, n), m.giver(g, n));
                same("back", x.back(g), m.back(g));
            }
            case 16 -> {
                int cost = within(1, (int) Math.min(100000000L, 1 + upTo(wealth) * 20L));
                int months = within(1, odds(2) ? 3 : 24);
                if (odds(3)) {
                    same("stage", x.stage(cost, months), m.stage(cost, months));
                }
            }
            case 17 -> same("begin", x.begin(), m.begin());
            case 18 -> {
                int s = within(0, Math.max(0, m.count(10) - 1));
                int n = within(0, 4);
                same("built(" + s + ", " + n + ")", x.built(s, n), m.built(s, n));
            }
            case 19 -> {
                int n = within(1, odds(2) ? 84 : 5);
                same("sure(" + n + ")", x.sure(n), m.sure(n));
            }
            case 20 -> {
                int i = within(0, Math.max(0, m.count(14) - 1));
                same("stone(" + i + ")", x.stone(i), m.stone(i));
                if (odds(stopOdds / 20)) {
                    same("stop", x.stop(), m.stop());
                }
            }
            case 21 -> {
                boolean is = odds(2);
                same("nameless", x.nameless(g, is), m.nameless(g, is));
            }
            case 22 -> text();
            default -> {
                int n = within(0, 14);
                same("count(" + n + ")", x.count(n), m.count(n));
            }
        }
    }

    private void text() {
        boolean hasRoom = calls < CALLS - LAST_CALLS - CALLS_OF_A_TEXT;
        switch (hasRoom ? random.nextInt(8) : 4 + random.nextInt(4)) {
            case 0 -> tell(goodText());
            case 1, 2 -> tell(spoiled(goodText()));
            case 3 -> tell(pieces());
            case 4 -> {
                int a = random.nextInt();
                int b = odds(2) ? 0x20202020 : random.nextInt();
                same("feed", x.feed(a, b, 0x20202020, 0x0a0a2020, a), m.feed(a, b, 0x20202020, 0x0a0a2020, a));
            }
            case 5 -> {
                int n = within(0, m.count(13));
                same("end(" + n + ")", x.end(n), m.end(n));
            }
            case 6 -> {
                int n = within(0, 8);
                same("rule(" + n + ")", x.rule(n), m.rule(n));
            }
            default -> {
                int n = within(0, 1);
                same("fault(" + n + ")", x.fault(n), m.fault(n));
            }
        }
    }

    private void tell(String text) {
        same("end", x.end(0), m.end(0));
        for (int at = 0; at < text.length(); at += 20) {
            int[] fours = new int[5];
            for (int i = 0; i < 20; i++) {
                int sign = at + i < text.length() ? text.charAt(at + i) : 'z';
                fours[i / 4] = fours[i / 4] << 8 | sign;
            }
            same("feed", x.feed(fours[0], fours[1], fours[2], fours[3], fours[4]),
                    m.feed(fours[0], fours[1], fours[2], fours[3], fours[4]));
        }
        same("end", x.end(text.length()), m.end(text.length()));
        same("trust '" + text + "'", x.trust(), m.trust());
        same("fault 0 '" + text + "'", x.fault(0), m.fault(0));
        same("fault 1 '" + text + "'", x.fault(1), m.fault(1));
        for (int what = -1; what <= 9; what++) {
            same("rule " + what + " '" + text + "'", x.rule(what), m.rule(what));
        }
    }

    private String goodText() {
        StringBuilder text = new StringBuilder();
        int start = random.nextInt(6);
        int lines = upTo(6);
        int pounds = Math.min(999999, 1 + wealth / 10);
        for (int i = 0; i < lines; i++) {
            blanks(text, 0);
            switch ((start + i) % 6) {
                case 0 -> line(text, "match", upTo(100), upTo(pounds), upTo(119));
                case 1 -> line(text, "tax", upTo(50));
                case 2 -> line(text, "lapse", 1 + upTo(odds(3) ? 11 : 2));
                case 3 -> line(text, "loan", upTo(pounds), upTo(10));
                case 4 -> line(text, "stone", 1 + upTo(Math.max(1, pounds / 4)));
                default -> text.append("stop ").append(odds(2) ? "all" : "left");
            }
            blanks(text, 0);
            text.append(';');
        }
        blanks(text, 0);
        if (odds(10)) {
            // About as much as the tape holds, in front or behind.
            String many = " ".repeat(Math.max(0, 375 + upTo(30) - text.length()));
            text.insert(odds(2) ? 0 : text.length(), many);
        }
        return text.toString();
    }

    private void line(StringBuilder text, String word, int... numbers) {
        text.append(word);
        for (int i = 0; i < numbers.length; i++) {
            blanks(text, i == 0 && odds(5) ? 0 : 1);
            text.append(odds(9) ? "0" : "").append(Math.min(numbers[i], 99999 * (odds(9) ? 1 : 10) + 9));
        }
    }

    private void blanks(StringBuilder text, int least) {
        for (int i = odds(4) ? upTo(3) + least : least; i > 0; i--) {
            text.append(odds(4) ? '\n' : ' ');
        }
    }

    private String spoiled(String text) {
        if (text.isEmpty()) {
            return ";";
        }
        int at = random.nextInt(text.length());
        return switch (random.nextInt(6)) {
            case 0 -> text.substring(0, at);
            case 1 -> text.substring(0, at) + text.substring(at + 1);
            case 2 -> text.substring(0, at) + (char) random.nextInt(256) + text.substring(at);
            case 3 -> text.substring(0, at) + random.nextInt(10) + text.substring(at);
            case 4 -> text + WORDS[random.nextInt(WORDS.length)] + " " + random.nextInt(200) + ";";
            default -> text.substring(0, at) + PIECES[random.nextInt(PIECES.length)] + text.substring(at);
        };
    }

    private String pieces() {
        StringBuilder text = new StringBuilder();
        for (int i = upTo(12); i > 0; i--) {
            text.append(PIECES[random.nextInt(PIECES.length)]).append(odds(3) ? "" : " ");
        }
        return text.toString();
    }

    private void oneQuestion() {
        int p = upTo(Math.max(0, m.count(8) - 1));
        int s = upTo(Math.max(0, m.count(10) - 1));
        int g = upTo(29);
        switch (random.nextInt(8)) {
            case 0 -> {
                int what = upTo(14);
                same("count " + what, x.count(what), m.count(what));
            }
            case 1, 2, 3 -> {
                int what = upTo(7);
                same("about " + p + " " + what, x.about(p, what), m.about(p, what));
            }
            case 4 -> {
                int what = upTo(4);
                same("built " + s + " " + what, x.built(s, what), m.built(s, what));
            }
            case 5 -> {
                int n = 1 + upTo(83);
                same("sure " + n, x.sure(n), m.sure(n));
            }
            case 6 -> {
                int what = upTo(4);
                same("giver " + g + " " + what, x.giver(g, what), m.giver(g, what));
            }
            default -> {
                int i = upTo(m.count(14));
                same("stone " + i, x.stone(i), m.stone(i));
            }
        }
    }

    private void lastCalls() {
        same("stop", x.stop(), m.stop());
        for (int g = 0; g < 30; g++) {
            same("back " + g, x.back(g), m.back(g));
        }
        same("coin", x.count(1), m.count(1));
    }
}
