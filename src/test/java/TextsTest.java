/** Promises 12 to 15: the tape and texts. */
public final class TextsTest {
    private static final Dues DUES = new Dues("TextsTest");

    public static void main(String[] args) {
        feed();
        feedWrong();
        text();
        faults();
        openSigns();
        longTexts();
        untell();
        law();
        lawSigns();
        lawRanks();
        lawHeld();
        DUES.end();
    }

    private static void due(String call, long got, long want) {
        DUES.due(call, got, want);
    }

    private static void feed() {
        HandTown x = new HandTown();
        due("feed of 8 bytes", x.feed(Dues.word("1+r*k-n+"), 8), 8);
        due("feed of 1 byte", x.feed(Dues.word("2garbage"), 1), 9);
        due("count(4)", x.count(4), 9);
        due("the lowest byte came first", x.text(1), 1);
        due("1+r*k-n+2 of 3, 4, 5", x.law(1, 3, 4, 5), 10);
        due("the tape is empty", x.count(4), 0);
        for (int i = 1; i <= 7; i++) {
            due("feed of 8 bytes, " + i, x.feed(-1L, 8), 8 * i);
        }
        due("feed(-1, 5) onto 56", x.feed(-1L, 5), Dues.FULL);
        due("feed(-1, 8) onto 56", x.feed(-1L, 8), Dues.FULL);
        due("count(4)", x.count(4), 56);
        due("feed(-1, 4) onto 56", x.feed(-1L, 4), 60);
        due("feed(0, 1) onto 60", x.feed(0L, 1), Dues.FULL);
        due("feed(0, 9) onto 60: BEYOND is asked first", x.feed(0L, 9), Dues.BEYOND);
        due("text(1) of bytes 255", x.text(1), -10);
    }

    private static void feedWrong() {
        HandTown x = new HandTown();
        due("feed(0, 0)", x.feed(0L, 0), Dues.BEYOND);
        due("feed(0, 9)", x.feed(0L, 9), Dues.BEYOND);
        for (int wild : Dues.WILD) {
            due("feed(0, " + wild + ")", x.feed(0L, wild), Dues.BEYOND);
        }
        due("count(4)", x.count(4), 0);
    }

    private static void text() {
        HandTown x = new HandTown();
        Dues.feed(x, "m*2");
        due("text(2)", x.text(2), Dues.BEYOND);
        due("text(-1)", x.text(-1), Dues.BEYOND);
        for (int wild : Dues.WILD) {
            due("text(" + wild + ")", x.text(wild), Dues.BEYOND);
        }
        due("the tape stays", x.count(4), 3);
        due("text(1): m is no name of WORTH", x.text(1), -10);
        due("the tape is empty behind a fault", x.count(4), 0);
        due("m*2 as LEAPS", Dues.read(x, 0, "m*2"), 1);
        due("the tape is empty", x.count(4), 0);
        due("r+1 as LEAPS", Dues.read(x, 0, "r+1"), -10);
        due("the one ahead stays", x.law(0, 7, 0, 0), 14);
        due("m*3 in its place", Dues.read(x, 0, "m*3"), 1);
        due("law(0, 7, 0, 0)", x.law(0, 7, 0, 0), 21);
        due("the other use has none", x.law(1, 7, 0, 0), 70);
        due("r*2 as WORTH", Dues.read(x, 1, "r*2"), 1);
        due("law(1, 7, 0, 0)", x.law(1, 7, 0, 0), 14);
        due("LEAPS stay", x.law(0, 7, 0, 0), 21);
        due("a shorter one in its place", Dues.read(x, 0, "5"), 1);
        due("law(0, 7, 0, 0)", x.law(0, 7, 0, 0), 5);
    }

    private static void faults() {
        // a text, and its fault; -1 for none
        Object[][] rows = {
            {"", 0}, {"m", -1}, {"t", -1}, {"h", -1}, {"0", -1}, {"0000", -1}, {"9999", -1}, {"12345", 4}, {"00000", 4},
            {"r", 0}, {"k", 0}, {"n", 0}, {"M", 0}, {" m", 0}, {"m ", 1}, {"m t", 1}, {"m5", 1}, {"5m", 1}, {"mm", 1},
            {"m+", 2}, {"m-", 2}, {"m*", 2}, {"m/", 2}, {"m%", 2}, {"m<", 2}, {"m=", 2}, {"m>", 2}, {"m|", 2}, {"m&", 2},
            {"+m", 0}, {"-1", 0}, {"1--1", 2}, {"1+*2", 2}, {"m==1", 2}, {"m||t", 2}, {"m&&t", 2}, {"m<=t", 2},
            {"m+t*h-3/2%7", -1}, {"m|t&h|1", -1}, {"1<2&3>4|5=6", -1}, {"1<2<3", 3}, {"1<2=3", 3}, {"1=2>3", 3},
            {"m+1<2+t<3", 7}, {"(1<2)<3", -1}, {"1<(2<3)", -1}, {"(1<2<3)", 4}, {"1<2+3&4", -1},
            {"(", 1}, {"()", 1}, {"(m", 2}, {"(m)", -1}, {"m)", 1}, {"(m))", 3}, {"(m)m", 3}, {"(m)(t)", 3}, {"((m)", 4},
            {"!", 1}, {"!m", -1}, {"!!m", -1}, {"m!", 1}, {"m!t", 1}, {"!(m|t)", -1}, {"!)", 1}, {"!+m", 1}, {"(!m)", -1},
            {"m;", 1}, {"m^t", 1}, {"m~", 1}, {"m,t", 1}, {"m\u0000", 1}, {"\u0080", 0}, {"m\u00ff", 1}, {"m\u00ed", 1},
            {"m+:", 2}, {"m+/", 2}, {"1:", 1}, {"1'", 1}, {"m\n", 1},
        };
        HandTown x = new HandTown();
        for (Object[] row : rows) {
            int fault = (Integer) row[1];
            due("reading " + row[0], Dues.read(x, 0, (String) row[0]), fault < 0 ? 1 : -10 - fault);
        }
        due("no ERROR was told", x.told(1) + x.told(2) + x.told(3), 0);
        due("reading r+k*n", Dues.read(x, 1, "r+k*n"), 1);
        due("reading r+m", Dues.read(x, 1, "r+m"), -12);
        due("reading t", Dues.read(x, 1, "t"), -10);
        due("reading h", Dues.read(x, 1, "h"), -10);
    }

    private static void openSigns() {
        Object[][] rows = {
            {"!!!!!m", -1}, {"!!!!!!m", 5}, {"(((((m)))))", -1}, {"((((((m))))))", 5}, {"!(!(!m))", -1}, {"!(!(!(m)))", 5},
            {"(!(!(!m)))", 5}, {"(!(!(m)))", -1}, {"!!!!!m+!!!!!t", -1}, {"(((((m)))))*(((((t)))))", -1},
            {"!(!!!m)+!!!!!m", -1}, {"!(!!!!m)", 5}, {"!!(!m)&!!!!!!m", 12}, {"((((!m))))", -1}, {"((((!m+!!t))))", 8},
            {"((((!m+!t))))", -1}, {"(((((m+(t))))))", 7}, {"(((((!m", 5}, {"!!!!!(", 5}, {"!!!!!", 5}, {"(((((", 5},
            {"(((((m", 6}, {"(((((m))))", 10},
        };
        HandTown x = new HandTown();
        for (Object[] row : rows) {
            int fault = (Integer) row[1];
            due("reading " + row[0], Dues.read(x, 0, (String) row[0]), fault < 0 ? 1 : -10 - fault);
        }
    }

    private static void longTexts() {
        HandTown x = new HandTown();
        String sum = "1" + "+1".repeat(28) + "+10";
        due("60 bytes of a sum", Dues.read(x, 1, sum), 1);
        due("law of 60 bytes", x.law(1, 0, 0, 0), 39);
        due("60 bytes that end too early", Dues.read(x, 1, "r+".repeat(30)), -70);
        String deep = "1|1&1<1+1*(1|1&1<1+1*(1|1&1<1+1*(1|1&1<1+1*(r|1&1<1+10*1))))";
        due("bytes", deep.length(), 60);
        due("60 bytes that wait for one another", Dues.read(x, 1, deep), 1);
        due("its law", x.law(1, 0, 0, 0), 1);
        due("60 numbers' bytes", Dues.read(x, 1, "1234+".repeat(11) + "12345"), -69);
    }

    private static void untell() {
        HandTown x = new HandTown();
        due("untell(0) without", x.untell(0), 0);
        Dues.read(x, 0, "m*2");
        Dues.read(x, 1, "r*2");
        due("untell(0)", x.untell(0), 1);
        due("untell(0) again", x.untell(0), 0);
        due("law(0, 9, 0, 0) without a text", x.law(0, 9, 0, 0), 3);
        due("law(1, 9, 0, 0) with one", x.law(1, 9, 0, 0), 18);
        due("untell(1)", x.untell(1), 1);
        due("law(1, 9, 4, 0) without", x.law(1, 9, 4, 0), 86);
        Dues.read(x, 1, "5");
        due("untell(1) of a short text", x.untell(1), 1);
        due("untell(1) again", x.untell(1), 0);
        due("untell(2)", x.untell(2), Dues.BEYOND);
        for (int wild : Dues.WILD) {
            due("untell(" + wild + ")", x.untell(wild), Dues.BEYOND);
        }
    }

    private static void law() {
        HandTown x = new HandTown();
        due("law(0, 8, 5, 5)", x.law(0, 8, 5, 5), 2);
        due("law(0, 2, 99, 99)", x.law(0, 2, 99, 99), 0);
        due("law(0, 89, 0, 0)", x.law(0, 89, 0, 0), 29);
        due("law(0, 90, 0, 0)", x.law(0, 90, 0, 0), 30);
        due("law(0, 93, 0, 0): held", x.law(0, 93, 0, 0), 30);
        due("law(0, MAX, 0, 0): held", x.law(0, Integer.MAX_VALUE, 0, 0), 30);
        due("law(0, MIN, 0, 0): held", x.law(0, Integer.MIN_VALUE, 0, 0), 0);
        due("law(1, 10, 1, 50)", x.law(1, 10, 1, 50), 99);
        due("law(1, 3, 59, 0)", x.law(1, 3, 59, 0), -29);
        due("law(1, 100, 0, 0): held", x.law(1, 100, 0, 0), 999);
        due("law(1, 100, 1, 0)", x.law(1, 100, 1, 0), 999);
        due("law(1, 100, 2, 0)", x.law(1, 100, 2, 0), 998);
        due("law(1, 0, 1000, 0): held", x.law(1, 0, 1000, 0), -999);
        due("law(1, 429496730, 0, 0): wraps to 4", x.law(1, 429496730, 0, 0), 4);
        due("law(1, 0, MIN, 0): wraps", x.law(1, 0, Integer.MIN_VALUE, 0), -999);
        due("law(-1, 0, 0, 0)", x.law(-1, 0, 0, 0), Dues.BEYOND);
        due("law(2, 0, 0, 0)", x.law(2, 0, 0, 0), Dues.BEYOND);
        for (int wild : Dues.WILD) {
            due("law(" + wild + ", ..)", x.law(wild, 0, 0, 0), Dues.BEYOND);
        }
        Dues.read(x, 0, "t*10+h");
        due("t*10+h", x.law(0, 9, 2, 3), 23);
        Dues.read(x, 1, "k*10+n");
        due("k*10+n", x.law(1, 9, 2, 3), 23);
        due("k*10+n of any numbers", x.law(1, 9, -20, -3), -203);
    }

    /** What a text of WORTH gives, each time in a new object. */
    private static void gives(String text, int r, int k, int n, int want) {
        HandTown x = new HandTown();
        Dues.read(x, 1, text);
        due(text + " of " + r + ", " + k + ", " + n, x.law(1, r, k, n), want);
    }

    private static void lawSigns() {
        int min = Integer.MIN_VALUE;
        int max = Integer.MAX_VALUE;
        gives("r+k", max, 1, 0, -999);
        gives("r+k", max, min, 0, -1);
        gives("r-k", min, 1, 0, 999);
        gives("r-k", min, max, 0, 1);
        gives("r*k", 65536, 65536, 0, 0);
        gives("r*k", 65537, 65537, 0, 999);
        gives("r*k+n", 1 << 30, 4, 5, 5);
        gives("r/k", 7, 2, 0, 3);
        gives("r/k", -7, 2, 0, -3);
        gives("r/k", 7, -2, 0, -3);
        gives("r/k", 7, 0, 0, 0);
        gives("r/k", min, -1, 0, -999);
        gives("r%k", 7, 4, 0, 3);
        gives("r%k", -7, 4, 0, -3);
        gives("r%k", 7, -4, 0, 3);
        gives("r%k", 7, 0, 0, 0);
        gives("r%k", min, -1, 0, 0);
        gives("r|k", 0, 0, 0, 0);
        gives("r|k", 0, 5, 0, 1);
        gives("r|k", -2, 0, 0, 1);
        gives("r|k", 4, 8, 0, 1);
        gives("r&k", 2, 1, 0, 1);
        gives("r&k", 2, 0, 0, 0);
        gives("r&k", 0, 2, 0, 0);
        gives("r&k", -1, 8, 0, 1);
        gives("r<k", 1, 2, 0, 1);
        gives("r<k", 2, 2, 0, 0);
        gives("r<k", min, max, 0, 1);
        gives("r<k", max, min, 0, 0);
        gives("r>k", 2, 1, 0, 1);
        gives("r>k", 2, 2, 0, 0);
        gives("r>k", max, min, 0, 1);
        gives("r=k", 2, 2, 0, 1);
        gives("r=k", 2, 3, 0, 0);
        gives("!r", 0, 0, 0, 1);
        gives("!r", 5, 0, 0, 0);
        gives("!r", -5, 0, 0, 0);
        gives("!!r", 5, 0, 0, 1);
        gives("0012", 0, 0, 0, 12);
        gives("r", 77, 1, 2, 77);
        gives("k", 1, 77, 2, 77);
        gives("n", 1, 2, 77, 77);
    }

    private static void lawRanks() {
        gives("r-k-n", 10, 3, 2, 5);
        gives("r/k*n", 7, 2, 2, 6);
        gives("r%k*n", 7, 4, 2, 6);
        gives("r*k/n", 7, 3, 2, 10);
        gives("r+k*n", 2, 3, 4, 14);
        gives("r*k+n", 2, 3, 4, 10);
        gives("r*(k+n)", 2, 3, 4, 14);
        gives("r-(k-n)", 10, 3, 2, 9);
        gives("r+k<n", 1, 1, 2, 0);
        gives("r<k+n", 3, 2, 2, 1);
        gives("r=k&k=n", 1, 1, 1, 1);
        gives("r|k&n", 1, 0, 0, 1);
        gives("r&k|n", 0, 0, 1, 1);
        gives("(r|k)&n", 1, 0, 0, 0);
        gives("r<k|n<k", 5, 3, 1, 1);
        gives("!r+k", 0, 5, 0, 6);
        gives("!r*k", 0, 5, 0, 5);
        gives("!(r+k)", -5, 5, 0, 1);
        gives("!r=k", 0, 1, 0, 1);
        gives("r|k|n", 0, 0, 7, 1);
        gives("r&k&n", 3, 5, 7, 1);
        gives("(r)", 5, 0, 0, 5);
    }

    private static void lawHeld() {
        gives("r", 999, 0, 0, 999);
        gives("r", 1000, 0, 0, 999);
        gives("r", -999, 0, 0, -999);
        gives("r", -1000, 0, 0, -999);
        HandTown x = new HandTown();
        Dues.read(x, 0, "m");
        due("m of 30", x.law(0, 30, 0, 0), 30);
        due("m of 31", x.law(0, 31, 0, 0), 30);
        due("m of 0", x.law(0, 0, 0, 0), 0);
        due("m of -1", x.law(0, -1, 0, 0), 0);
        due("m of 17", x.law(0, 17, 0, 0), 17);
    }
}
