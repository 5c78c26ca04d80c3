import java.math.BigInteger;
import java.util.ArrayList;
import java.util.HashMap;
import java.util.HashSet;
import java.util.LinkedHashMap;
import java.util.LinkedHashSet;
import java.util.List;
import java.util.Map;
import java.util.Set;
import java.util.regex.Matcher;
import java.util.regex.Pattern;

/**
 * The document told a second time, for ModelTest: it keeps a log of what happened and counts all answers anew
 * from it, so that it shares no bookkeeping with the class.
 */
final class Model {
    private static final int NONE = -1;
    private static final int RANGE = -2;
    private static final int FULL = -3;
    private static final int STATE = -4;

    private record Sum(int giver, int pence, int month, int matched) { }

    private static final class Due {
        final int month;
        int pence;
        int filled;

        Due(int month, int pence) {
            this.month = month;
            this.pence = pence;
        }

        boolean isFilled() {
            return filled == pence;
        }
    }

    private static final class Promise {
        int giver;
        int pence;
        final List<Due> dues = new ArrayList<>();
        final List<Integer> lapses = new ArrayList<>();
        Integer takenUp;

        boolean lapsed() {
            return lapses.size() == (takenUp == null ? 1 : 2);
        }

        boolean has(Due due) {
            if (lapses.isEmpty() || due.isFilled()) {
                return true;
            }
            return !lapsed() && due.month > takenUp;
        }

        /** Was it a due when its month came? */
        boolean cameDue(Due due, int clock) {
            if (due.month > clock) {
                return false;
            }
            if (lapses.isEmpty() || due.month <= lapses.get(0)) {
                return true;
            }
            return takenUp != null && due.month > takenUp && (lapses.size() < 2 || due.month <= lapses.get(1));
        }
    }

    private static final class Part {
        int cost;
        int months;
        int pauses;
        boolean begun;
        final List<Integer> paid = new ArrayList<>();

        int state() {
            return !begun ? 0 : paid.size() < months ? 1 : 2;
        }

        int paidInAll() {
            return paid.stream().mapToInt(Integer::intValue).sum();
        }
    }

    private String tape = "";
    private int[] rules = {0, 0, 0, 0, 3, 0, 0, 1000, 0};
    private int faultKind;
    private int faultPlace = NONE;
    private final Map<Integer, int[]> declarations = new HashMap<>();
    private final Set<Integer> namelessOnes = new HashSet<>();
    private final List<Promise> promises = new ArrayList<>();
    private final List<Sum> sums = new ArrayList<>();
    private final Map<Integer, Integer> taxOfSum = new LinkedHashMap<>();
    private final List<Part> parts = new ArrayList<>();
    private final List<Long> drawn = new ArrayList<>();
    private final List<Long> grown = new ArrayList<>();
    private final List<Long> repaid = new ArrayList<>();
    private Map<Integer, Long> givenBack;
    private int clock;

    int feed(int a, int b, int c, int d, int e) {
        if (tape.length() + 20 > 400) {
            return FULL;
        }
        for (int four : new int[] {a, b, c, d, e}) {
            for (int i = 3; i >= 0; i--) {
                tape += (char) (four >> 8 * i & 255);
            }
        }
        return tape.length();
    }

    int end(int n) {
        if (n < 0 || n > tape.length()) {
            return NONE;
        }
        tape = tape.substring(0, n);
        return n;
    }

    int trust() {
        String text = tape;
        tape = "";
        int[] told = {0, 0, 0, 0, 3, 0, 0, 1000, 0};
        int lines = parse(text, told);
        if (lines >= 0) {
            rules = told;
            faultKind = 0;
            faultPlace = NONE;
        }
        return lines;
    }

    private int fail(int kind, int place) {
        faultKind = kind;
        faultPlace = place;
        return NONE;
    }

    private static int[][] bounds(String word) {
        return switch (word) {
            case "match" -> new int[][] {{0, 0, 100}, {1, 0, 999999}, {2, 0, 119}};
            case "tax" -> new int[][] {{3, 0, 50}};
            case "lapse" -> new int[][] {{4, 1, 12}};
            case "loan" -> new int[][] {{5, 0, 999999}, {6, 0, 10}};
            case "stone" -> new int[][] {{7, 1, 999999}};
            case "stop" -> new int[][] {{8}};
            default -> null;
        };
    }

    /** What may come next: null at a line's start, else what is left of the line, the semicolon as an empty row. */
    private int parse(String text, int[] told) {
        Matcher tokens = Pattern.compile("[ \n]*+([a-z]++|[0-9]++|;|[^ \n]|$)", Pattern.DOTALL).matcher(text);
        Set<String> words = new HashSet<>();
        List<int[]> rest = null;
        while (tokens.find()) {
            String token = tokens.group(1);
            int place = tokens.start(1);
            if (rest == null) {
                if (token.isEmpty()) {
                    return words.size();
                }
                int[][] line = bounds(token);
                if (line == null) {
                    return fail(1, place);
                }
                if (!words.add(token)) {
                    return fail(3, place);
                }
                rest = new ArrayList<>(List.of(line));
                rest.add(new int[0]);
                continue;
            }
            int[] next = rest.remove(0);
            if (next.length == 0) {
                if (!token.equals(";")) {
                    return fail(1, place);
                }
                rest = null;
            } else if (next.length == 1) {
                if (!token.equals("all") && !token.equals("left")) {
                    return fail(1, place);
                }
                told[8] = token.equals("all") ? 1 : 0;
            } else {
                if (!token.matches("[0-9]{1,6}")) {
                    return fail(1, place);
                }
                int n = Integer.parseInt(token);
                if (n < next[1] || n > next[2]) {
                    return fail(2, place);
                }
                told[next[0]] = n;
            }
        }
        throw new IllegalStateException("a text has an end");
    }

    int fault(int what) {
        return what == 0 ? faultKind : what == 1 ? faultPlace : NONE;
    }

    int rule(int what) {
        return what < 0 || what > 8 ? -9 : rules[what];
    }

    private boolean stopped() {
        return givenBack != null;
    }

    private static boolean out(int n, int from, int to) {
        return n < from || n > to;
    }

    int declare(int g, int from, int to) {
        if (out(g, 0, 29) || out(from, 0, 119) || out(to, from, 119)) {
            return RANGE;
        }
        if (stopped()) {
            return STATE;
        }
        declarations.put(g, new int[] {from, to});
        return 1;
    }

    int nameless(int g, boolean is) {
        if (out(g, 0, 29)) {
            return RANGE;
        }
        if (stopped()) {
            return STATE;
        }
        boolean other = is ? namelessOnes.add(g) : namelessOnes.remove(g);
        return other ? 1 : 0;
    }

    int pledge(int g, int pence, int first, int every, int dues) {
        if (out(g, 0, 29) || out(pence, 1, 100000) || out(first, clock, 119) || out(every, 1, 12) || out(dues, 1, 84)) {
            return RANGE;
        }
        if (stopped()) {
            return STATE;
        }
        if (promises.size() == 60) {
            return FULL;
        }
        Promise one = new Promise();
        one.giver = g;
        one.pence = pence;
        for (int month = first; month <= 119 && one.dues.size() < dues; month += every) {
            one.dues.add(new Due(month, pence));
        }
        promises.add(one);
        return promises.size() - 1;
    }

    private Promise promise(int p) {
        return out(p, 0, promises.size() - 1) ? null : promises.get(p);
    }

    int change(int p, int pence) {
        Promise one = promise(p);
        if (one == null || out(pence, 1, 100000)) {
            return RANGE;
        }
        if (stopped() || one.lapsed()) {
            return STATE;
        }
        one.pence = pence;
        for (Due due : one.dues) {
            if (due.month > clock && due.filled == 0) {
                due.pence = pence;
            }
        }
        return 1;
    }

    private static int open(Promise one) {
        return one.dues.stream().filter(one::has).mapToInt(d -> d.pence - d.filled).sum();
    }

    int pay(int p, int pence) {
        Promise one = promise(p);
        if (one == null || out(pence, 1, 5000000) || !one.lapsed() && pence > open(one)) {
            return RANGE;
        }
        if (stopped() || one.lapsed()) {
            return STATE;
        }
        if (sums.size() == 250) {
            return FULL;
        }
        int left = pence;
        while (left > 0) {
            Due due = one.dues.stream().filter(d -> one.has(d) && !d.isFilled()).findFirst().orElseThrow();
            int put = Math.min(left, due.pence - due.filled);
            due.filled += put;
            left -= put;
        }
        return come(one.giver, pence);
    }

    int gift(int g, int pence) {
        if (out(g, 0, 29) || out(pence, 1, 5000000)) {
            return RANGE;
        }
        if (stopped()) {
            return STATE;
        }
        return sums.size() == 250 ? FULL : come(g, pence);
    }

    private int come(int g, int pence) {
        int matched = 0;
        if (clock <= rules[2]) {
            int left = Math.max(0, rules[1] * 100 - matchedInAll());
            matched = Math.min(left, (int) ((long) pence * rules[0] / 100));
        }
        sums.add(new Sum(g, pence, clock, matched));
        return matched;
    }

    private int matchedInAll() {
        return sums.stream().mapToInt(Sum::matched).sum();
    }

    int takeUp(int p) {
        Promise one = promise(p);
        if (one == null) {
            return RANGE;
        }
        if (stopped() || !one.lapsed() || one.takenUp != null) {
            return STATE;
        }
        one.takenUp = clock;
        return (int) one.dues.stream().filter(d -> d.month > clock).count();
    }

    int claim() {
        if (stopped()) {
            return STATE;
        }
        int comes = 0;
        for (int i = 0; i < sums.size() && rules[3] > 0; i++) {
            Sum sum = sums.get(i);
            int[] span = declarations.get(sum.giver);
            if (!taxOfSum.containsKey(i) && span != null && !out(sum.month, span[0], span[1])) {
                int tax = (int) ((long) sum.pence * rules[3] / 100);
                taxOfSum.put(i, tax);
                comes += tax;
            }
        }
        return comes;
    }

    private int overdue(Promise one) {
        return (int) one.dues.stream().filter(d -> d.month <= clock && one.has(d) && !d.isFilled()).count();
    }

    int about(int p, int what) {
        if (stopped()) {
            return STATE;
        }
        Promise one = promise(p);
        if (one == null || out(what, 0, 7)) {
            return NONE;
        }
        return switch (what) {
            case 0 -> one.giver;
            case 1 -> one.pence;
            case 2 -> overdue(one);
            case 3 -> one.dues.stream().mapToInt(d -> d.filled).sum();
            case 4 -> open(one);
            case 5 -> one.lapsed() ? 1 : 0;
            case 6 -> one.lapses.isEmpty() ? NONE : one.lapses.get(0);
            default -> one.lapsed() ? NONE
                    : one.dues.stream().filter(d -> d.month > clock && one.has(d)).mapToInt(d -> d.month)
                            .findFirst().orElse(NONE);
        };
    }

    private long gave(int g) {
        return sums.stream().filter(s -> s.giver == g).mapToLong(Sum::pence).sum();
    }

    int giver(int g, int what) {
        if (out(g, 0, 29) || out(what, 0, 4)) {
            return RANGE;
        }
        if (stopped()) {
            return STATE;
        }
        int unclaimed = 0;
        for (int i = 0; i < sums.size(); i++) {
            if (sums.get(i).giver == g && !taxOfSum.containsKey(i)) {
                unclaimed += sums.get(i).pence;
            }
        }
        int[] span = declarations.getOrDefault(g, new int[] {NONE, NONE});
        return new int[] {(int) gave(g), unclaimed, span[0], span[1], namelessOnes.contains(g) ? 1 : 0}[what];
    }

    int stage(int cost, int months) {
        if (out(cost, 1, 100000000) || out(months, 1, 24)) {
            return RANGE;
        }
        if (stopped()) {
            return STATE;
        }
        if (parts.size() == 8) {
            return FULL;
        }
        Part part = new Part();
        part.cost = cost;
        part.months = months;
        parts.add(part);
        return parts.size() - 1;
    }

    private Part running() {
        return parts.stream().filter(part -> part.state() == 1).findFirst().orElse(null);
    }

    int begin() {
        if (stopped() || running() != null) {
            return STATE;
        }
        for (int s = 0; s < parts.size(); s++) {
            if (!parts.get(s).begun) {
                parts.get(s).begun = true;
                return s;
            }
        }
        return STATE;
    }

    int built(int s, int what) {
        if (out(s, 0, parts.size() - 1) || out(what, 0, 4)) {
            return NONE;
        }
        Part part = parts.get(s);
        return new int[] {part.cost, part.months, part.state(), part.paidInAll(), part.pauses}[what];
    }

    private static long all(List<Long> log) {
        return log.stream().mapToLong(Long::longValue).sum();
    }

    private long loan() {
        return all(drawn) + all(grown) - all(repaid);
    }

    private long given() {
        return sums.stream().mapToLong(Sum::pence).sum();
    }

    private long taxInAll() {
        return taxOfSum.values().stream().mapToLong(Integer::longValue).sum();
    }

    private long stagesPaid() {
        return parts.stream().mapToLong(Part::paidInAll).sum();
    }

    private long coin() {
        long out = givenBack == null ? 0 : givenBack.values().stream().mapToLong(Long::longValue).sum();
        return given() + matchedInAll() + taxInAll() + all(drawn) - stagesPaid() - all(repaid) - out;
    }

    int months(int n) {
        if (out(n, 1, 24) || clock + n > 119) {
            return RANGE;
        }
        if (stopped()) {
            return STATE;
        }
        for (int i = 0; i < n; i++) {
            endMonth();
        }
        return clock;
    }

    private void endMonth() {
        for (Promise one : promises) {
            if (overdue(one) >= rules[4]) {
                one.lapses.add(clock);
            }
        }
        grown.add(loan() * rules[6] / 1000);
        Part part = running();
        if (part != null) {
            long due = part.paid.size() == part.months - 1
                    ? part.cost - (long) (part.cost / part.months) * (part.months - 1) : part.cost / part.months;
            long mayBeDrawn = Math.max(0, rules[5] * 100L - loan());
            if (coin() + mayBeDrawn >= due) {
                drawn.add(Math.max(0, due - coin()));
                part.paid.add((int) due);
            } else {
                part.pauses++;
            }
        }
        repaid.add(Math.min(coin(), loan()));
        clock++;
    }

    int sure(int n) {
        if (out(n, 1, 84)) {
            return RANGE;
        }
        long comes = 0;
        long due = 0;
        long filled = 0;
        for (Promise one : promises) {
            for (Due d : one.dues) {
                if (one.has(d) && d.month > clock && d.month <= clock + n) {
                    comes += d.pence - d.filled;
                }
                if (one.cameDue(d, clock)) {
                    due += d.pence;
                    filled += d.filled;
                }
            }
        }
        return due == 0 ? 0 : share(comes, filled, due);
    }

    private static int share(long whole, long part, long of) {
        return BigInteger.valueOf(whole).multiply(BigInteger.valueOf(part)).divide(BigInteger.valueOf(of)).intValueExact();
    }

    private List<Integer> stones() {
        Map<Integer, Long> so = new HashMap<>();
        Set<Integer> order = new LinkedHashSet<>();
        for (Sum sum : sums) {
            if (so.merge(sum.giver, (long) sum.pence, Long::sum) >= rules[7] * 100L) {
                order.add(sum.giver);
            }
        }
        order.removeAll(namelessOnes);
        return new ArrayList<>(order);
    }

    int stone(int i) {
        List<Integer> stones = stones();
        return out(i, 0, stones.size() - 1) ? NONE : stones.get(i);
    }

    int stop() {
        if (stopped()) {
            return STATE;
        }
        long coin = coin();
        long given = given();
        Map<Integer, Long> backs = new HashMap<>();
        for (int g = 0; g < 30; g++) {
            long gave = gave(g);
            if (rules[8] == 1 && coin >= given) {
                backs.put(g, gave);
            } else {
                backs.put(g, given == 0 ? 0L : share(coin, gave, given));
            }
        }
        givenBack = backs;
        return (int) backs.values().stream().mapToLong(Long::longValue).sum();
    }

    int back(int g) {
        return out(g, 0, 29) ? RANGE : givenBack == null ? 0 : givenBack.get(g).intValue();
    }

    int count(int what) {
        return (int) switch (what) {
            case 0 -> clock;
            case 1 -> coin();
            case 2 -> loan();
            case 3 -> given();
            case 4 -> matchedInAll();
            case 5 -> taxInAll();
            case 6 -> stagesPaid();
            case 7 -> all(grown);
            case 8 -> promises.size();
            case 9 -> promises.stream().filter(Promise::lapsed).count();
            case 10 -> parts.size();
            case 11 -> sums.size();
            case 12 -> stopped() ? 1 : 0;
            case 13 -> tape.length();
            case 14 -> stones().size();
            default -> NONE;
        };
    }
}
