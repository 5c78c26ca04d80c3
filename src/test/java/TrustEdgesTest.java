/** The edges that promises 1 to 6, and the terms that they stand on, name: one method for each sentence. */
public final class TrustEdgesTest {
    private static final int NONE = TowerAppeal.NONE;
    private static final int FULL = TowerAppeal.FULL;
    private static final int SYNTAX = 1;
    private static final int OUT_OF_BOUNDS = 2;
    private static final int TWICE = 3;
    private static final int[] UNTOLD = {0, 0, 0, 0, 3, 0, 0, 1000, 0};
    private static final String[] LINES = {"match 1 2 3;", "tax 4;", "lapse 5;", "loan 6 7;", "stone 8;", "stop all;"};
    private static final Check CHECK = new Check("edges of the trust");

    public static void main(String[] args) {
        aNewObject();
        objectsShareNothing();
        twentyBytesCome();
        theHighestByteFirst();
        behindTheTape();
        fullWhenMoreThan400();
        aRefusedFeedPutsNothing();
        firstBytesAlone();
        notSoManyBytes();
        aRefusedEndCutsNothing();
        howManyLines();
        emptyThen();
        theTrustStays();
        whatATextDoesNotTell();
        noFaultAheadOfAny();
        ofTheLatestTrust();
        anotherFaultWhat();
        blanksAre32And10();
        signsAtTheTextsEdges();
        asManyLettersAsThereAre();
        sixDigitsAtMost();
        numbersOfALine();
        stopAllOrLeft();
        lineEndsWithSemicolon();
        boundsOfNumbers();
        theTextsLengthAtItsEnd();
        theFirstFaultComeTo();
        theLeastKindOfOneToken();
        firstWordToldAlready();
        ruleOfAnotherWhat();
        inForceFromWhenItIsTold();
        whatWasIsNotChanged();
        CHECK.finish();
    }

    private static void is(String call, long got, long want) {
        CHECK.is(call, got, want);
    }

    private static void rulesAre(TowerAppeal x, int... rules) {
        for (int what = 0; what < rules.length; what++) {
            is("rule(" + what + ")", x.rule(what), rules[what]);
        }
    }

    private static void linesAre(String text, int lines) {
        TowerAppeal x = new TowerAppeal();
        is("trust() '" + text + "'", Check.tell(x, text), lines);
        is("fault(0) '" + text + "'", x.fault(0), 0);
        is("fault(1) '" + text + "'", x.fault(1), NONE);
    }

    private static void faultIs(String text, int kind, int place) {
        TowerAppeal x = new TowerAppeal();
        is("trust() '" + text + "'", Check.tell(x, text), NONE);
        is("fault(0) '" + text + "'", x.fault(0), kind);
        is("fault(1) '" + text + "'", x.fault(1), place);
    }

    private static void aNewObject() {
        CHECK.under(1, "Month 0, a TRUST without a text, nothing pledged.");
        TowerAppeal x = new TowerAppeal();
        for (int what = 0; what <= 14; what++) {
            is("count(" + what + ")", x.count(what), 0);
        }
        rulesAre(x, UNTOLD);
        for (int what = 0; what <= 7; what++) {
            is("about(0, " + what + ")", x.about(0, what), NONE);
        }
        for (int g = 0; g < 30; g++) {
            is("gave", x.giver(g, 0), 0);
            is("not claimed", x.giver(g, 1), 0);
            is("from", x.giver(g, 2), NONE);
            is("to", x.giver(g, 3), NONE);
            is("nameless", x.giver(g, 4), 0);
            is("back", x.back(g), 0);
        }
        is("built", x.built(0, 0), NONE);
        is("stone", x.stone(0), NONE);
        is("pay", x.pay(0, 1), TowerAppeal.RANGE);
        is("begin", x.begin(), TowerAppeal.STATE);
        is("sure", x.sure(84), 0);
        is("claim", x.claim(), 0);
        is("end", x.end(0), 0);
        is("stop", x.stop(), 0);
    }

    private static void objectsShareNothing() {
        CHECK.under(1, "Month 0, a TRUST without a text, nothing pledged.");
        TowerAppeal busy = CHECK.made("match 1 2 3;tax 4;lapse 5;loan 6 7;stone 8;stop all;");
        busy.pledge(0, 1, 0, 1, 84);
        busy.gift(0, 5000000);
        busy.declare(0, 1, 2);
        busy.nameless(0, true);
        busy.stage(1, 1);
        busy.feed(0, 0, 0, 0, 0);
        busy.trust();
        busy.feed(0, 0, 0, 0, 0);
        busy.months(5);
        busy.stop();
        aNewObject();
    }

    private static void twentyBytesCome() {
        CHECK.under(2, "Twenty bytes come behind THE TAPE: how many it has");
        TowerAppeal x = new TowerAppeal();
        for (int i = 1; i <= 20; i++) {
            is("feed", x.feed(-1, 0, 1, Integer.MIN_VALUE, Integer.MAX_VALUE), 20 * i);
            is("count(13)", x.count(13), 20 * i);
        }
    }

    private static void theHighestByteFirst() {
        CHECK.under(2, "the highest of each int first");
        TowerAppeal x = new TowerAppeal();
        is("feed", x.feed(0x6d617463, 0x68203120, 0x32332034, 0x353b7461, 0x7820363b), 20);
        is("trust() of 'match 1 23 45;tax 6;'", x.trust(), 2);
        rulesAre(x, 1, 23, 45, 6);
        for (int place = 0; place < 20; place++) {
            TowerAppeal y = new TowerAppeal();
            feedOneStrangeByte(y, place);
            is("trust()", y.trust(), NONE);
            is("the place of the byte that is no token", y.fault(1), place);
        }
    }

    /** Feeds twenty blanks, with byte 233 in place of one of them. */
    private static void feedOneStrangeByte(TowerAppeal x, int place) {
        int[] fours = new int[5];
        for (int i = 0; i < 20; i++) {
            fours[i / 4] = fours[i / 4] << 8 | (i == place ? 233 : 32);
        }
        x.feed(fours[0], fours[1], fours[2], fours[3], fours[4]);
    }

    private static void behindTheTape() {
        CHECK.under(2, "Twenty bytes come behind THE TAPE");
        for (int already = 0; already <= 380; already += 19) {
            for (int place = 0; place < 20; place += 19) {
                TowerAppeal x = new TowerAppeal();
                Check.put(x, " ".repeat(already));
                feedOneStrangeByte(x, place);
                x.trust();
                is("place, behind " + already, x.fault(1), already + place);
            }
        }
    }

    private static void fullWhenMoreThan400() {
        CHECK.under(2, "FULL when there would be more than 400.");
        int[] had = {0, 1, 379, 380, 381, 382, 399, 400};
        for (int already : had) {
            TowerAppeal x = new TowerAppeal();
            Check.put(x, " ".repeat(already));
            boolean fits = already + 20 <= 400;
            is("feed behind " + already, x.feed(0, 0, 0, 0, 0), fits ? already + 20 : FULL);
            is("count(13)", x.count(13), fits ? already + 20 : already);
        }
    }

    private static void aRefusedFeedPutsNothing() {
        CHECK.under(2, "FULL when there would be more than 400.");
        for (int blanks = 375; blanks <= 394; blanks++) {
            TowerAppeal x = new TowerAppeal();
            Check.put(x, " ".repeat(blanks) + "tax 7;");
            is("feed", x.feed(-1, -1, -1, -1, -1), FULL);
            is("trust()", x.trust(), 1);
            is("rule(3)", x.rule(3), 7);
        }
    }

    private static void firstBytesAlone() {
        CHECK.under(3, "THE TAPE has its first n bytes alone: n");
        String text = "tax 1;lapse 2;stop all;";
        int[] lengths = {0, 6, 14, 23};
        for (int lines = 0; lines < lengths.length; lines++) {
            TowerAppeal x = new TowerAppeal();
            Check.put(x, text);
            is("end", x.end(lengths[lines]), lengths[lines]);
            is("count(13)", x.count(13), lengths[lines]);
            is("trust()", x.trust(), lines);
        }
        TowerAppeal y = new TowerAppeal();
        Check.put(y, "tax 1;?");
        is("end", y.end(6), 6);
        is("feed behind the six", y.feed(0x6c617073, 0x6520323b, 0x20202020, 0x20202020, 0x20202020), 26);
        is("trust()", y.trust(), 2);
    }

    private static void notSoManyBytes() {
        CHECK.under(3, "NONE when it has not so many, or n is below 0.");
        int[] had = {0, 1, 7, 20, 399, 400};
        for (int already : had) {
            CHECK.edges("end, of " + already, 0, already, NONE, n -> {
                TowerAppeal x = new TowerAppeal();
                Check.put(x, " ".repeat(already));
                return x.end(n);
            }, n -> n);
        }
        TowerAppeal y = new TowerAppeal();
        Check.put(y, " ".repeat(9));
        is("all of them", y.end(9), 9);
        is("fewer", y.end(8), 8);
        is("what was cut off is gone", y.end(9), NONE);
    }

    private static void aRefusedEndCutsNothing() {
        CHECK.under(3, "NONE when it has not so many, or n is below 0.");
        int[] refused = {-1, 7, Integer.MIN_VALUE, Integer.MAX_VALUE};
        for (int n : refused) {
            TowerAppeal x = new TowerAppeal();
            Check.put(x, "tax 5;");
            is("end", x.end(n), NONE);
            is("count(13)", x.count(13), 6);
            is("trust()", x.trust(), 1);
        }
    }

    private static void howManyLines() {
        CHECK.under(4, "THE TAPE is THE TRUST: how many lines");
        linesAre("", 0);
        linesAre(" \n ", 0);
        linesAre(" ".repeat(400), 0);
        for (int start = 0; start < LINES.length; start++) {
            StringBuilder text = new StringBuilder();
            for (int lines = 1; lines <= LINES.length; lines++) {
                text.append(LINES[(start + lines - 1) % LINES.length]);
                linesAre(text.toString(), lines);
                linesAre("\n" + text + " ", lines);
            }
        }
        linesAre(" ".repeat(394) + "tax 1;", 1);
    }

    private static void emptyThen() {
        CHECK.under(4, "(read, and empty then)");
        String[] texts = {"", "tax 1;", "tax 51;", "?", "tax 1;tax 2;", " ".repeat(400), "x".repeat(400)};
        for (String text : texts) {
            TowerAppeal x = new TowerAppeal();
            Check.tell(x, text);
            is("count(13) behind '" + text + "'", x.count(13), 0);
            is("end(1)", x.end(1), NONE);
            is("feed", x.feed(0x20202020, 0x20202020, 0x20202020, 0x20202020, 0x20202020), 20);
            is("trust() of blanks", x.trust(), 0);
        }
    }

    private static void theTrustStays() {
        CHECK.under(4, "NONE with a FAULT (THE TRUST stays).");
        String others = "match 100 99 98;tax 50;lapse 12;loan 97 10;stone 96;stop left;";
        String[] faulty = {others + "?", others + "tax", others + "tax 1;", "lapse 1;tax 51;", "stop left", ";"};
        for (String text : faulty) {
            TowerAppeal x = CHECK.made(String.join("", LINES));
            is("trust() '" + text + "'", Check.tell(x, text), NONE);
            rulesAre(x, 1, 2, 3, 4, 5, 6, 7, 8, 1);
            is("a good text behind it", Check.tell(x, "tax 9;"), 1);
            rulesAre(x, 0, 0, 0, 9, 3, 0, 0, 1000, 0);
        }
        TowerAppeal y = new TowerAppeal();
        is("trust()", Check.tell(y, others + "?"), NONE);
        rulesAre(y, UNTOLD);
    }

    private static void whatATextDoesNotTell() {
        CHECK.under(4, "What a text doesn't tell is so: match 0 0 0, tax 0, lapse 3, loan 0 0, stone 1000, stop left.");
        int[] told = {1, 2, 3, 4, 5, 6, 7, 8, 1};
        int[] lineOfRule = {0, 0, 0, 1, 2, 3, 3, 4, 5};
        for (int line = 0; line < LINES.length; line++) {
            TowerAppeal x = CHECK.made(String.join("", LINES));
            Check.tell(x, LINES[line]);
            for (int what = 0; what < told.length; what++) {
                is("rule(" + what + ") by '" + LINES[line] + "'", x.rule(what),
                        lineOfRule[what] == line ? told[what] : UNTOLD[what]);
            }
            is("trust() of nothing", x.trust(), 0);
            rulesAre(x, UNTOLD);
        }
    }

    private static void noFaultAheadOfAny() {
        CHECK.under(5, "what 0: its FAULT's KIND, 0 without (and ahead of any), 1: its PLACE (NONE).");
        TowerAppeal x = new TowerAppeal();
        is("fault(0) ahead of any", x.fault(0), 0);
        is("fault(1) ahead of any", x.fault(1), NONE);
        Check.put(x, "?");
        is("fault(0), not read yet", x.fault(0), 0);
        is("fault(1), not read yet", x.fault(1), NONE);
        x.trust();
        is("fault(0)", x.fault(0), SYNTAX);
        is("fault(1)", x.fault(1), 0);
        x.trust();
        is("fault(0) without", x.fault(0), 0);
        is("fault(1) without", x.fault(1), NONE);
    }

    private static void ofTheLatestTrust() {
        CHECK.under(5, "Of the latest trust()");
        TowerAppeal x = new TowerAppeal();
        Check.tell(x, " tax 51;");
        is("fault(0)", x.fault(0), OUT_OF_BOUNDS);
        is("fault(1)", x.fault(1), 5);
        Check.put(x, "tax 1;  tax");
        x.end(5);
        is("fault(0), another text isn't read yet", x.fault(0), OUT_OF_BOUNDS);
        is("fault(1), another text isn't read yet", x.fault(1), 5);
        Check.tell(x, "tax 1;  tax");
        is("fault(0)", x.fault(0), TWICE);
        is("fault(1)", x.fault(1), 8);
    }

    private static void anotherFaultWhat() {
        CHECK.under(5, "NONE for another what.");
        CHECK.edges("fault, what", 0, 1, NONE, what -> {
            TowerAppeal x = new TowerAppeal();
            Check.tell(x, "tax 1 !");
            return x.fault(what);
        }, what -> what == 0 ? SYNTAX : 6);
    }

    private static void blanksAre32And10() {
        CHECK.under(4, "TOKENS with any blanks (32, 10) between");
        for (int sign = 0; sign < 256; sign++) {
            String text = "tax" + (char) sign + "1;";
            if (sign == 32 || sign == 10) {
                linesAre(text, 1);
            } else if (sign >= 'a' && sign <= 'z') {
                faultIs(text, SYNTAX, 0);
            } else if (sign >= '0' && sign <= '4') {
                linesAre(text, 1);
            } else if (sign >= '5' && sign <= '9') {
                faultIs(text, OUT_OF_BOUNDS, 3);
            } else {
                faultIs(text, SYNTAX, 3);
            }
        }
        linesAre("tax1;lapse2;stop all;", 3);
        linesAre("\n tax \n 1 \n ; \n lapse \n 2 \n ; \n", 2);
    }

    private static void signsAtTheTextsEdges() {
        CHECK.under(5, "a TOKEN (or byte that is none, a run that is too long) with which no text goes on.");
        for (int sign = 0; sign < 256; sign++) {
            String one = String.valueOf((char) sign);
            if (sign == 32 || sign == 10) {
                linesAre(one + "tax 1;", 1);
                linesAre("tax 1;" + one, 1);
            } else {
                faultIs(one + "tax 1;", SYNTAX, 0);
                faultIs("tax 1;" + one, SYNTAX, 6);
            }
            if (sign == 32 || sign == 10 || sign >= '0' && sign <= '9') {
                linesAre("tax 1" + one + ";", 1);
            } else {
                faultIs("tax 1" + one + ";", SYNTAX, sign == ';' ? 6 : 5);
            }
        }
    }

    private static void asManyLettersAsThereAre() {
        CHECK.under(4, "WORDS (small letters, as many as there are)");
        String[] words = {"match", "tax", "lapse", "loan", "stone", "stop"};
        for (int i = 0; i < words.length; i++) {
            String rest = LINES[i].substring(words[i].length());
            linesAre(words[i] + rest, 1);
            faultIs(words[i].substring(0, words[i].length() - 1) + rest, SYNTAX, 0);
            faultIs(words[i].substring(1) + rest, SYNTAX, 0);
            faultIs(words[i] + "s" + rest, SYNTAX, 0);
            faultIs(words[i] + "a" + rest, SYNTAX, 0);
            faultIs(words[i] + "z" + rest, SYNTAX, 0);
            faultIs("a" + words[i] + rest, SYNTAX, 0);
            faultIs(words[i] + words[i] + rest, SYNTAX, 0);
            faultIs(words[i].toUpperCase() + rest, SYNTAX, 0);
            faultIs(words[i].charAt(0) + " " + words[i].substring(1) + rest, SYNTAX, 0);
            for (int at = 0; at < words[i].length(); at++) {
                faultIs(words[i].substring(0, at) + "z" + words[i].substring(at + 1) + rest, SYNTAX, 0);
            }
        }
        faultIs("x".repeat(400), SYNTAX, 0);
        faultIs("stop " + "l".repeat(395), SYNTAX, 5);
    }

    private static void sixDigitsAtMost() {
        CHECK.under(4, "N (digits, as many as there are, 6 at most)");
        linesAre("tax 7;", 1);
        linesAre("tax 00007;", 1);
        linesAre("tax 000007;", 1);
        faultIs("tax 0000007;", SYNTAX, 4);
        faultIs("tax 00000007;", SYNTAX, 4);
        faultIs("tax " + "0".repeat(396), SYNTAX, 4);
        faultIs("stone 1000000;", SYNTAX, 6);
        faultIs("stone 4294967297;", SYNTAX, 6);
        faultIs("tax 4294967297;", SYNTAX, 4);
        faultIs("loan 1 0000000;", SYNTAX, 7);
        faultIs("match 1 1 0000000;", SYNTAX, 10);
        TowerAppeal x = CHECK.made("stone 000009;loan 012345 000010;match 099 123456 007;");
        rulesAre(x, 99, 123456, 7, 0, 3, 12345, 10, 9, 0);
    }

    private static void numbersOfALine() {
        CHECK.under(4, "line = \"match\" N N N | \"tax\" N | \"lapse\" N | \"loan\" N N | \"stone\" N");
        String[] words = {"match", "tax", "lapse", "loan", "stone"};
        int[] numbers = {3, 1, 1, 2, 1};
        for (int i = 0; i < words.length; i++) {
            for (int n = 0; n <= 4; n++) {
                String text = words[i] + " 1".repeat(n);
                if (n == numbers[i]) {
                    linesAre(text + ";", 1);
                } else if (n < numbers[i]) {
                    faultIs(text + ";", SYNTAX, text.length());
                    faultIs(text + " all;", SYNTAX, text.length() + 1);
                } else {
                    faultIs(text + ";", SYNTAX, words[i].length() + 2 * numbers[i] + 1);
                }
                faultIs(text, SYNTAX, Math.min(text.length(), words[i].length() + 2 * numbers[i]
                        + (n > numbers[i] ? 1 : 0)));
            }
        }
    }

    private static void stopAllOrLeft() {
        CHECK.under(4, "\"stop\" (\"all\" | \"left\")");
        rulesAre(CHECK.made("stop all;"), 0, 0, 0, 0, 3, 0, 0, 1000, 1);
        rulesAre(CHECK.made("stop left;"), UNTOLD);
        String[] others = {";", "1;", "stop;", "match;", "al;", "alll;", "lef;", "lefts;", "ll;", "eft;", "all1", "All;"};
        for (String other : others) {
            faultIs("stop " + other, SYNTAX, other.equals("all1") ? 8 : 5);
        }
        faultIs("stop", SYNTAX, 4);
        faultIs("stop all left;", SYNTAX, 9);
        faultIs("stop left all;", SYNTAX, 10);
        faultIs("all;", SYNTAX, 0);
        faultIs("left;", SYNTAX, 0);
    }

    private static void lineEndsWithSemicolon() {
        CHECK.under(4, "text = {line \";\"}.");
        faultIs(";", SYNTAX, 0);
        faultIs(" ;", SYNTAX, 1);
        for (String line : LINES) {
            String bare = line.substring(0, line.length() - 1);
            linesAre(line, 1);
            faultIs(bare, SYNTAX, bare.length());
            faultIs(bare + " ", SYNTAX, bare.length() + 1);
            faultIs(line + ";", SYNTAX, line.length());
            faultIs(bare + " tax 1;", SYNTAX, bare.length() + 1);
            faultIs(bare + ".", SYNTAX, bare.length());
            faultIs(bare + ":", SYNTAX, bare.length());
            faultIs(bare + "<", SYNTAX, bare.length());
        }
    }

    private static void boundsOfNumbers() {
        CHECK.under(4, "Bounds");
        numberIsWithin("match ", 0, " 0 0;", 0, 100);
        numberIsWithin("match 0 ", 1, " 0;", 0, 999999);
        numberIsWithin("match 0 0 ", 2, ";", 0, 119);
        numberIsWithin("tax ", 3, ";", 0, 50);
        numberIsWithin("lapse ", 4, ";", 1, 12);
        numberIsWithin("loan ", 5, " 0;", 0, 999999);
        numberIsWithin("loan 0 ", 6, ";", 0, 10);
        numberIsWithin("stone ", 7, ";", 1, 999999);
    }

    private static void numberIsWithin(String ahead, int what, String behind, int least, int most) {
        int[] numbers = {least - 1, least, least + 1, most - 1, most, most + 1, 999999};
        for (int n : numbers) {
            String text = ahead + n + behind;
            if (n < 0 || n > 999999) {
                faultIs(text, SYNTAX, ahead.length());
            } else if (n < least || n > most) {
                faultIs(text, OUT_OF_BOUNDS, ahead.length());
            } else {
                is("rule(" + what + ") by '" + text + "'", CHECK.made(text).rule(what), n);
            }
        }
    }

    private static void theTextsLengthAtItsEnd() {
        CHECK.under(5, "PLACE (a TOKEN's first byte; the text's length at its end)");
        faultIs("tax", SYNTAX, 3);
        faultIs("tax ", SYNTAX, 4);
        faultIs("tax 1", SYNTAX, 5);
        faultIs("tax 1 \n", SYNTAX, 7);
        faultIs("tax 1" + " ".repeat(394), SYNTAX, 399);
        faultIs("tax 1" + " ".repeat(395), SYNTAX, 400);
        faultIs(" ".repeat(397) + "tax", SYNTAX, 400);
        faultIs(" ".repeat(396) + "tax?", SYNTAX, 399);
        faultIs(" ".repeat(396) + "taxi", SYNTAX, 396);
        faultIs(" ".repeat(394) + "tax 51", OUT_OF_BOUNDS, 398);
        faultIs("tax 1;" + " ".repeat(391) + "tax", TWICE, 397);
        TowerAppeal x = new TowerAppeal();
        Check.put(x, "tax 1;");
        x.end(5);
        is("trust()", x.trust(), NONE);
        is("what was cut off isn't read", x.fault(1), 5);
    }

    private static void theFirstFaultComeTo() {
        CHECK.under(5, "the first come to as TOKENS are read one by one");
        faultIs("tax 51 ?", OUT_OF_BOUNDS, 4);
        faultIs("tax 51", OUT_OF_BOUNDS, 4);
        faultIs("tax ? 51", SYNTAX, 4);
        faultIs("tax 1;tax 51;", TWICE, 6);
        faultIs("tax 1;tax", TWICE, 6);
        faultIs("tax 51;tax 1;", OUT_OF_BOUNDS, 4);
        faultIs("match 101 1000000 120;", OUT_OF_BOUNDS, 6);
        faultIs("match 100 1000000 120;", SYNTAX, 10);
        faultIs("match 100 999999 120 ?", OUT_OF_BOUNDS, 17);
        faultIs("loan 0 11 11;", OUT_OF_BOUNDS, 7);
        faultIs("tax 1;?tax 1;", SYNTAX, 6);
    }

    private static void theLeastKindOfOneToken() {
        CHECK.under(5, "of one TOKEN the least KIND");
        faultIs("tax 1 999;", SYNTAX, 6);
        faultIs("tax 1;51;", SYNTAX, 6);
        faultIs("lapse 0000000;", SYNTAX, 6);
        faultIs("stop 999999;", SYNTAX, 5);
        faultIs("tax 1 tax 1;", SYNTAX, 6);
        faultIs("tax 1;lapse tax;", SYNTAX, 12);
        faultIs("tax 1;stop tax;", SYNTAX, 11);
        faultIs("stop all;all;", SYNTAX, 9);
    }

    private static void firstWordToldAlready() {
        CHECK.under(5, "3 TWICE: a line's first WORD that was told already.");
        String all = String.join("", LINES);
        for (String line : LINES) {
            faultIs(line + line, TWICE, line.length());
            faultIs(line + " \n" + line, TWICE, line.length() + 2);
            faultIs(all + line, TWICE, all.length());
        }
        faultIs(all + "x", SYNTAX, all.length());
        linesAre(all, 6);
        faultIs("stop left;stop all;", TWICE, 10);
        TowerAppeal x = CHECK.made("tax 1;");
        is("told in an earlier text", Check.tell(x, "tax 2;"), 1);
        is("twice", Check.tell(x, "tax 3;tax 4;"), NONE);
        is("told in a text with a fault", Check.tell(x, "tax 5;"), 1);
        is("rule(3)", x.rule(3), 5);
    }

    private static void ruleOfAnotherWhat() {
        CHECK.under(6, "-9 for another what.");
        CHECK.edges("rule", 0, 8, -9, what -> CHECK.made(String.join("", LINES)).rule(what),
                what -> what == 8 ? 1 : what + 1);
        CHECK.edges("rule of no text", 0, 8, -9, what -> new TowerAppeal().rule(what), what -> UNTOLD[what]);
    }

    private static void inForceFromWhenItIsTold() {
        CHECK.under(4, "It is IN FORCE from when it is told");
        TowerAppeal x = new TowerAppeal();
        Check.put(x, "match 100 100 119;tax 50;stone 1;");
        is("gift, not told yet", x.gift(0, 100), 0);
        is("stones, not told yet", x.count(14), 0);
        x.trust();
        is("gift", x.gift(0, 100), 100);
        is("stones", x.count(14), 1);
        x.declare(0, 0, 0);
        is("claim", x.claim(), 100);
        TowerAppeal y = new TowerAppeal();
        y.pledge(0, 10, 0, 1, 84);
        Check.tell(y, "lapse 1;");
        is("not before a month ends", y.count(9), 0);
        y.months(1);
        is("lapsed", y.count(9), 1);
        is("told when all is stopped", y.stop(), 0);
        is("trust()", Check.tell(y, "tax 3;"), 1);
        is("rule(3)", y.rule(3), 3);
    }

    private static void whatWasIsNotChanged() {
        CHECK.under(4, "what was is not changed.");
        TowerAppeal x = CHECK.made("match 100 2 119;tax 50;lapse 1;loan 1 10;stop all;");
        x.pledge(0, 10, 0, 1, 84);
        x.gift(1, 300);
        x.declare(1, 0, 119);
        is("claim", x.claim(), 150);
        x.stage(750, 1);
        x.begin();
        x.months(1);
        is("drawn", x.count(2), 100);
        Check.tell(x, "match 50 1 119;tax 20;lapse 12;");
        is("matched", x.count(4), 200);
        is("tax", x.count(5), 150);
        is("claimed", x.claim(), 0);
        is("lapsed", x.about(0, 5), 1);
        is("loan", x.count(2), 100);
        is("gift, 2 pounds of 1 are matched", x.gift(1, 100), 0);
        is("claim of that one", x.claim(), 20);
        x.months(1);
        is("paid back from 120", x.count(2), 0);
        is("coin", x.count(1), 20);
        is("stop", x.stop(), 20);
        Check.tell(x, "stop all;");
        is("given back", x.back(1), 20);
        is("coin", x.count(1), 0);
    }
}
