/** Boundary cases of promises 8 to 10: THE TAPE, THE LAW as a TEXT, and of how many of twelve. */
public final class LawBoundsTests extends Bounds {
    private static final String DIGITS = "0123456789", NAMES = "fsbyam", OPENING = "(!-";
    private static final String JOINING = "|&+-*/%", COMPARING = "<=>";
    /** 2048 * 1024 * 1024 wraps to the least int. */
    private static final String LEAST = "(2048*1024*1024)", GREATEST = "(2048*1024*1024-1)";

    public static void main(String[] args) {
        feed();
        tapeIsEmptyThen();
        lawStays();
        bytesThatGoOn();
        openAtOnce();
        endsTooEarly();
        longest();
        lines();
        joinedBy();
        wraps();
        byZero();
        truths();
        names();
        held();
        withoutText();
        odds();
        end();
    }

    private static void feed() {
        sentence(8, "A byte (0 .. 255)");
        due("feed(0)", after().feed(0), 1);
        due("feed(255)", after().feed(255), 1);
        for (int v : new int[] {-1, 256, -128, 257, MIN, MAX}) refused("feed(" + v + ")", BAD, x -> x.feed(v), IN_USE);
        sentence(8, "how many it has; FULL (120)");
        StarfishWatch x = after();
        for (int i = 1; i <= 120; i++) due("feed " + i, x.feed('1'), i);
        for (int i = 0; i < 3; i++) due("feed 121", x.feed('1'), FULL);
        due("count(2)", x.count(2), 120);
        refused("feed 121", FULL, y -> y.feed('9'), IN_USE, y -> feed(y, "+1".repeat(59)));
        sentence(8, "BAD ahead of FULL");
        for (int v : new int[] {-1, 256}) refused("feed 121, feed(" + v + ")", BAD, y -> y.feed(v), IN_USE, y -> feed(y, "+1".repeat(59)));
        sentence(9, "a TAPE that was full takes bytes again");
        x.law();
        due("feed 1", x.feed('1'), 1);
    }

    private static void tapeIsEmptyThen() {
        sentence(9, "THE TAPE is empty then");
        for (String text : new String[] {"1", "1+", "x", ""}) {
            StarfishWatch x = after(y -> feed(y, text));
            x.law();
            due("count(2) behind " + text, x.count(2), 0);
            due("law() of nothing", x.law(), -100);
            due("feed behind " + text, x.feed('5'), 1);
            due("law()", x.law(), 1);
        }
    }

    private static Calls one(int f) { return x -> { x.star(20); x.thrower(f); }; }

    private static void lawStays() {
        sentence(9, "THE TAPE becomes THE LAW: 1");
        StarfishWatch x = after(one(4));
        due("law()", tell(x, "3"), 1);
        due("odds(0)", x.odds(0), 3);
        due("law()", tell(x, "4"), 1);
        due("odds(0)", x.odds(0), 4);
        sentence(9, "-100 less its FAULT: it is no LAW then");
        for (String text : new String[] {"", "5+", "5;", "(5", "5 ", "12345"}) {
            due("law() of " + text, tell(x, text), text.equals("") ? -100 : text.equals("12345") ? -104 : text.equals("5 ") ? -101 : -102);
            due("odds(0) by the one ahead", x.odds(0), 4);
        }
        due("law()", tell(x, "5"), 1);
        due("odds(0)", x.odds(0), 5);
        StarfishWatch y = after(one(4));
        due("law()", tell(y, "1+"), -102);
        due("odds(0) without a text", y.odds(0), 7);
    }

    /** Behind this beginning go on the bytes told: each whole ones make a TEXT, the others not yet. */
    private static void goOn(String ahead, String whole, String more) {
        for (int c = 0; c < 256; c++) {
            int at = ahead.length();
            StarfishWatch x = after(y -> feed(y, ahead));
            x.feed(c);
            boolean isWhole = c > 0 && whole.indexOf(c) >= 0, goesOn = c > 0 && more.indexOf(c) >= 0;
            due("law() of " + ahead + " and byte " + c, x.law(), isWhole ? 1 : goesOn ? -100 - at - 1 : -100 - at);
        }
    }

    private static void bytesThatGoOn() {
        sentence(9, "FAULT: the first byte with which no TEXT goes on, at the beginning of a LINE");
        goOn("", DIGITS + NAMES, OPENING);
        goOn("1;", DIGITS + NAMES, OPENING);
        goOn("f?", DIGITS + NAMES, OPENING);
        sentence(9, "O = a number, a NAME, ! O, - O, ( E ): behind what joins");
        for (String s : new String[] {"1|", "1&", "1<", "1=", "1>", "1+", "1-", "1*", "1/", "1%", "!", "-", "1?2;3+"}) goOn(s, DIGITS + NAMES, OPENING);
        goOn("(", "", DIGITS + NAMES + OPENING);
        sentence(9, "O = a number (1 to 4 digits)");
        for (String s : new String[] {"1", "00", "999"}) goOn(s, DIGITS, JOINING + COMPARING + "?;");
        for (String s : new String[] {"9999", "0000", "1+1234", "1?0001;1000"}) goOn(s, "", JOINING + COMPARING + "?;");
        sentence(9, "a NAME is one byte");
        for (char c : NAMES.toCharArray()) goOn("" + c, "", JOINING + COMPARING + "?;");
        sentence(9, "( E ): it is closed first");
        goOn("(1", ")", DIGITS + JOINING + COMPARING);
        goOn("(f", ")", JOINING + COMPARING);
        goOn("(1)", "", JOINING + COMPARING + "?;");
        goOn("((1)", ")", JOINING + COMPARING);
        goOn("(1)+(2", ")", DIGITS + JOINING + COMPARING);
        sentence(9, "B = S, or S < S, S = S, S > S: but once");
        for (String s : new String[] {"f<f", "f=f", "f>f", "1+2<f", "1<2+f", "f<f&f=f", "f|f>f", "(f<f)=f", "f?f<f", "f<f;f<f"}) {
            goOn(s, "", JOINING + (s.indexOf('?') < 0 ? "?;" : ";"));
        }
        goOn("(f<f", ")", JOINING);
        goOn("f<(f", ")", JOINING + COMPARING);
        goOn("f<(f)", "", JOINING + "?;");
        goOn("f<f&f", "", JOINING + COMPARING + "?;");
        goOn("f<f|f", "", JOINING + COMPARING + "?;");
        goOn("f<f?f", "", JOINING + COMPARING + ";");
        goOn("f<f;f", "", JOINING + COMPARING + "?;");
        goOn("(f<f)", "", JOINING + COMPARING + "?;");
        sentence(9, "LINE: E, or E ? E: but once a LINE");
        goOn("f?f", "", JOINING + COMPARING + ";");
        goOn("f?f;f", "", JOINING + COMPARING + "?;");
        goOn("f?(f)", "", JOINING + COMPARING + ";");
        goOn("f?f;f?f", "", JOINING + COMPARING + ";");
        goOn("f?(f", ")", JOINING + COMPARING);
    }

    private static void openAtOnce() {
        sentence(9, "At most 6 of ( ! - ahead of an O are open at once");
        String[] fives = {"(((((", "!!!!!", "-----", "(!-(!", "1+((!--", "(1)*(((((", "!1+-1+!-!-!", "f<(((((", "0?(((((", "-1;-----"};
        for (String s : fives) {
            boolean closes = s.indexOf('(', s.lastIndexOf(')') + 1) < 0;
            goOn(s, closes ? DIGITS + NAMES : "", (closes ? "" : DIGITS + NAMES) + OPENING);
        }
        String[] sixes = {"((((((", "!!!!!!", "------", "(!-(!-", "1+((!--(", "(1)*((((((", "!1+-1+!-!-!-", "f<((((((", "0?((((((", "-1;------"};
        for (String s : sixes) {
            boolean closes = s.indexOf('(', s.lastIndexOf(')') + 1) < 0;
            goOn(s, closes ? DIGITS + NAMES : "", closes ? "" : DIGITS + NAMES);
        }
        sentence(9, "open: till its O is done");
        goOn("((((((1)+", "", DIGITS + NAMES + OPENING);
        goOn("((((((1+", "", DIGITS + NAMES);
        goOn("((((((1-1*", "", DIGITS + NAMES);
        goOn("(((!--1+", "", DIGITS + NAMES + OPENING);
        goOn("(((!--1+--", "", DIGITS + NAMES + OPENING);
        goOn("(((!--1+---", "", DIGITS + NAMES);
        goOn("-(-(-(1)+", "", DIGITS + NAMES + OPENING);
        goOn("-(-(-(1)+-", "", DIGITS + NAMES + OPENING);
        goOn("-(-(-(1)+--", "", DIGITS + NAMES);
        goOn("------1+-----", DIGITS + NAMES, OPENING);
        goOn("------1------", DIGITS + NAMES, OPENING);
        goOn("------1-------", DIGITS + NAMES, "");
        goOn("!(!(!(1))-!!!", "", DIGITS + NAMES + OPENING);
        goOn("!(!(!(1))-!!!!", "", DIGITS + NAMES);
        goOn("((((((1))))))+(((((", "", DIGITS + NAMES + OPENING);
        goOn("((((((1))))))+((((((", "", DIGITS + NAMES);
    }

    private static void endsTooEarly() {
        sentence(9, "FAULT: the length, if it ends too early");
        String[] all = {"", "1+", "1-", "1*", "1/", "1%", "1|", "1&", "1<", "1=", "1>", "1?", "1;", "1?2;", "!", "-", "(", "(1", "((1)", "!-", "1?(", "((((((", "------", "1+(f", "12?34;5?", "9999<"};
        for (String s : all) due("law() of " + s, tell(after(), s), -100 - s.length());
        sentence(9, "FAULT: the first byte, whatever comes behind it");
        String[] rest = {"", "1", "+", ")", "x", "1;2?3"};
        for (String s : rest) {
            due("law() of 1+x" + s, tell(after(), "1+x" + s), -102);
            due("law() of )" + s, tell(after(), ")" + s), -100);
            due("law() of 12345" + s, tell(after(), "12345" + s), -104);
        }
        sentence(9, "No blanks");
        for (String s : new String[] {" 1", "1 ", "1 +1", "1+ 1", "1; 2", "1? 2", "( 1)"}) due("law() of " + s, tell(after(), s), -100 - s.indexOf(' '));
        due("law() of 1 and byte 10", tell(after(), "1\n"), -101);
        due("law() of 1 and byte 0", tell(after(), "1\0"), -101);
    }

    private static void longest() {
        sentence(9, "THE TAPE (at most 120 bytes)");
        String[] all = {"1+".repeat(58) + "1111", "!f" + "|f".repeat(59), "0?1;".repeat(29) + "1?22", "1;".repeat(59) + "77", "(1)*".repeat(29) + "f<12", "((((((1))))))" + "-1".repeat(53) + "1"};
        int[] odds = {12, 1, 12, 1, 1, 0};
        for (int i = 0; i < all.length; i++) {
            StarfishWatch x = after(one(7));
            due("bytes of " + all[i], all[i].length(), 120);
            due("law() of " + all[i], tell(x, all[i]), 1);
            due("odds(0) by " + all[i], x.odds(0), odds[i]);
        }
        due("a fault in the last place", tell(after(), "1+".repeat(59) + "1x"), -219);
        due("the end of 120 is too early", tell(after(), "1+".repeat(60)), -220);
        StarfishWatch y = after(one(7));
        due("a byte more does not come on it", tell(y, "1+".repeat(59) + "11" + "+"), 1);
        due("the byte that came as the last counts", tell(y, "0*".repeat(59) + "1;"), -220);
        sentence(9, "LINES, one or more: sixty of them");
        due("law()", tell(y, "0?1;".repeat(29) + "5"), 1);
        due("the last one", y.odds(0), 5);
        due("law()", tell(y, "0?1;".repeat(28) + "f?6;9?4"), 1);
        due("the last but one", y.odds(0), 6);
    }

    /** Odds by a text, of FLAT 7, STICKY 4, BRIGHT 3, Y 2, ARMS 6, MINUTE 11. */
    private static void by(String text, int want) {
        StarfishWatch x = after(cells(17), throwers(7), mend(0, 2, 4), mend(0, 1, 3), mend(0, 3, 6), mend(0, 9, 11));
        due("law() of " + text, tell(x, text), 1);
        due("odds(0) by " + text, x.odds(0), want);
    }

    private static void lines() {
        sentence(9, "The first LINE without a first E counts");
        by("5;6", 5);
        by("0;6", 0);
        by("0?5;6;7", 6);
        sentence(9, "or whose first E is not 0");
        by("1?5;6", 5);
        by("-1?5;6", 5);
        by("2?5;6", 5);
        by(LEAST + "?5;6", 5);
        by("0?5;6", 6);
        by("0?5;0?6;1?7;8", 7);
        by("0?5;1?6;1?7", 6);
        by("1?0;1?7", 0);
        sentence(9, "none: 0");
        by("0?5", 0);
        by("0?5;0?6", 0);
        by("f<7?5;f>7?6", 0);
    }

    private static void joinedBy() {
        sentence(9, "E = A { | A }, A = B { & B }: & ahead of |");
        by("1|0&0", 1);
        by("0&0|1", 1);
        by("(1|0)&0", 0);
        sentence(9, "B = S < S: | & behind, + - ahead of it");
        by("0&2<1", 0);
        by("1|2<1", 1);
        by("5&4<5", 1);
        by("1+1<3", 1);
        by("3<1+1", 0);
        by("2=1+1", 1);
        by("(2<3)+7", 8);
        by("2<3+7", 1);
        sentence(9, "P = O { * O, / O, % O }: ahead of + -");
        by("1+2*3", 7);
        by("2*3+1", 7);
        by("9-4/2", 7);
        by("9-7%4", 6);
        sentence(9, "S, P: from the left");
        by("9-4-3", 2);
        by("9-4+3", 8);
        by("9-(4+3)", 2);
        by("36/6/2", 3);
        by("36/6*2", 12);
        by("6*5%4", 2);
        by("6*(5%4)", 6);
        by("100%30/5*2", 4);
        sentence(9, "! O, - O: just ahead of the O");
        by("!0+5", 6);
        by("!(0+5)", 0);
        by("-2+5", 3);
        by("12-(-2+5)", 9);
        by("-2*-3", 6);
        by("-7/2+10", 7);
        by("-7%4+10", 7);
        by("5--2", 7);
        by("5---2", 3);
        by("!!5+1", 2);
        by("!-0", 1);
        by("-!0+3", 2);
        by("!-5", 0);
    }

    private static void wraps() {
        sentence(9, "Ints that wrap: +, -");
        by(GREATEST + "+1<0?3;4", 3);
        by(GREATEST + "+1=" + LEAST, 1);
        by(LEAST + "-1>0?3;4", 3);
        by(LEAST + "-1=" + GREATEST, 1);
        by("0-" + LEAST + "=" + LEAST, 1);
        sentence(9, "Ints that wrap: *");
        by("2048*1024*1023>0?3;4", 3);
        by("2048*1024*1024<0?3;4", 3);
        by("2048*1024*1025<0?3;4", 3);
        by("4096*1024*1024=0?3;4", 3);
        by("9999*9999*9999<0?3;4", 9999 * 9999 * 9999 < 0 ? 3 : 4);
        by(GREATEST + "*2+4", 2);
        by(LEAST + "*-1<0?3;4", 3);
        sentence(9, "Ints that wrap: - O, /");
        by("-" + LEAST + "<0?3;4", 3);
        by(LEAST + "/-1<0?3;4", 3);
        by(LEAST + "%-1=0?3;4", 3);
        by("--" + LEAST + "<0?3;4", 3);
        sentence(9, "< = > of ints far apart");
        by(LEAST + "<" + GREATEST, 1);
        by(GREATEST + "<" + LEAST, 0);
        by(GREATEST + ">" + LEAST, 1);
        by(LEAST + ">1", 0);
        by("1>" + LEAST, 1);
        by(LEAST + "=0", 0);
    }

    private static void byZero() {
        sentence(9, "/ and % toward 0");
        by("7/2", 3);
        by("-7/2+9", 6);
        by("7/-2+9", 6);
        by("-7/-2", 3);
        by("7%2", 1);
        by("-7%2+9", 8);
        by("7%-2", 1);
        by("-7%-2+9", 8);
        by("-1/2+5", 5);
        by("1/2", 0);
        sentence(9, "by 0 they give 0");
        by("7/0+2", 2);
        by("7%0+2", 2);
        by("0/0+2", 2);
        by("0%0+2", 2);
        by("-7/0+2", 2);
        by("7/(f-f)", 0);
        by("7%(f-7)", 0);
        by("1/0=0", 1);
        sentence(9, "all is worked out: what does not count harms nothing");
        by("0&1/0", 0);
        by("1|1/0", 1);
        by("1?5;1/0", 5);
        by("1/0?5;6%0;7", 0);
    }

    private static void truths() {
        sentence(9, "| & ! give 1, 0: of what is not 0");
        by("5|0", 1);
        by("0|5", 1);
        by("5|7", 1);
        by("0|0", 0);
        by("-1|0", 1);
        by("5&7", 1);
        by("4&3", 1);
        by("0&5", 0);
        by("5&0", 0);
        by("0&0", 0);
        by("-1&-1", 1);
        by("!0", 1);
        by("!1", 0);
        by("!5", 0);
        by("!-1", 0);
        sentence(9, "< = > give 1, 0");
        by("3<4", 1);
        by("4<4", 0);
        by("5<4", 0);
        by("3=4", 0);
        by("4=4", 1);
        by("5=4", 0);
        by("3>4", 0);
        by("4>4", 0);
        by("5>4", 1);
        by("-1<0", 1);
        by("0>-1", 1);
        by("-1=1", 0);
    }

    private static void names() {
        sentence(9, "NAMES: f FLAT, s STICKY, b BRIGHT, y Y of its CELL, a ARMS, m the minute");
        by("f", 7);
        by("s", 4);
        by("b", 3);
        by("y", 2);
        by("a", 6);
        by("m", 11);
        sentence(9, "a number (1 to 4 digits)");
        by("0", 0);
        by("9", 9);
        by("12", 12);
        by("012", 12);
        by("0012", 12);
        by("9999-9990", 9);
        by("1000-0999", 1);
        sentence(9, "y: Y 0 .. 5 of CELLS 0 .. 47");
        int[] cells = {0, 7, 8, 15, 16, 39, 40, 47}, ys = {0, 0, 1, 1, 2, 4, 5, 5};
        for (int i = 0; i < cells.length; i++) due("y of " + cells[i], after(cells(cells[i]), throwers(0), law("y")).odds(0), ys[i]);
        sentence(9, "names of each STAR and THROWER, their least and greatest");
        StarfishWatch x = after(cells(0, 1), throwers(0, 9), law("f"));
        due("f of 0", x.odds(10), 0);
        due("f of 1", x.odds(11), 9);
        int[] whats = {1, 2, 3};
        String[] told = {"b", "s", "a"};
        for (int i = 0; i < 3; i++) {
            StarfishWatch y = after(cells(0, 1), throwers(3), law(told[i]), mend(0, whats[i], 9), mend(1, whats[i], whats[i] == 1 ? 1 : 0));
            due(told[i] + " of 0", y.odds(0), 9);
            due(told[i] + " of 1", y.odds(10), whats[i] == 1 ? 1 : 0);
        }
        due("m at first", after(one(0), law("m")).odds(0), 0);
        due("m at last", after(one(0), law("m-990"), mend(0, 9, 999)).odds(0), 9);
    }

    private static void held() {
        sentence(10, "of how many of twelve (held within 0 .. 12)");
        int[] least = {0, 1, 11, 12};
        for (int v : least) by("" + v, v);
        by("13", 12);
        by("9999", 12);
        by(GREATEST, 12);
        by("-1", 0);
        by("-9999", 0);
        by(LEAST, 0);
    }

    private static int bare(int f, int s, int b, int cell) {
        return after(cells(cell), throwers(f), mend(0, 2, s), mend(0, 1, b)).odds(0);
    }

    private static void withoutText() {
        sentence(10, "Without a text: 6");
        due("all else nothing", bare(0, 0, 1, 0), 6);
        sentence(10, "and f by 2 (cut)");
        for (int f = 0; f < 10; f++) due("f " + f, bare(f, 0, 1, 0), 6 + new int[] {0, 0, 1, 1, 2, 2, 3, 3, 4, 4}[f]);
        sentence(10, "and s by 3 (cut)");
        for (int s = 0; s < 10; s++) due("s " + s, bare(0, s, 1, 0), 6 + new int[] {0, 0, 0, 1, 1, 1, 2, 2, 2, 3}[s]);
        sentence(10, "less b by 3 (cut)");
        for (int b = 1; b < 10; b++) due("b " + b, bare(0, 0, b, 0), 6 - new int[] {0, 0, 0, 1, 1, 1, 2, 2, 2, 3}[b]);
        sentence(10, "less y by 2 (cut)");
        for (int y = 0; y < 6; y++) due("y " + y, bare(0, 0, 1, 8 * y + 7), 6 - new int[] {0, 0, 1, 1, 2, 2}[y]);
        sentence(10, "without a text held within 0 .. 12, too");
        due("the most", bare(9, 9, 1, 0), 12);
        due("just the most", bare(9, 6, 1, 0), 12);
        due("the least", bare(0, 0, 9, 47), 1);
        due("each cut by itself", bare(1, 2, 2, 8), 6);
        due("each cut by itself, not together", bare(1, 2, 4, 24), 4);
    }

    private static void odds() {
        sentence(10, "st: 10 times a STAR, and a THROWER; BAD");
        StarfishWatch x = after(cells(0, 1, 2, 3, 4, 5, 6, 7, 8, 9), throwers(1, 2, 3, 4), law("f"));
        for (int st = 0; st < 100; st++) due("odds(" + st + ")", x.odds(st), st % 10 < 4 ? st % 10 + 1 : BAD);
        Calls bright = y -> { for (int i = 0; i < 9; i++) y.mend(i, 1, i + 1); };
        StarfishWatch b = after(FULL_SKY, bright, mend(9, 2, 0), law("s=0?12;b"));
        for (int st = 0; st < 100; st++) due("odds(" + st + ") by BRIGHT", b.odds(st), st % 10 > 3 ? BAD : st >= 90 ? 12 : st / 10 + 1);
        for (int st : new int[] {-1, -10, -9, 100, 101, 103, MIN, MAX, MIN + 8}) refused("odds(" + st + ")", BAD, y -> y.odds(st), FULL_SKY);
        for (int st : new int[] {2, 3, 9, 12, 22, 30, 31, 99}) refused("odds(" + st + ")", BAD, y -> y.odds(st), IN_USE);
        for (int st : new int[] {0, 1, 20, 21}) due("odds(" + st + ")", after(IN_USE).odds(st) == BAD ? 1 : 0, 0);
        refused("odds(0) of no STAR", BAD, y -> y.odds(0), throwers(1));
        refused("odds(0) by no THROWER", BAD, y -> y.odds(0), cells(1));
        sentence(10, "now: by the MINUTE it is; one that is UP or GONE, too");
        StarfishWatch y = after(one(0), law("m"), mend(0, 9, 7));
        due("m 7", y.odds(0), 7);
        y.pass(2);
        due("m 9", y.odds(0), 9);
        y.mend(0, 4, 1);
        due("UP", y.odds(0), 9);
        y.pocket(0);
        due("GONE", y.odds(0), 9);
    }
}
