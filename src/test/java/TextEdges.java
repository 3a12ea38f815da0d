/** Sentences of promises 12 to 15, and what they rest on: the tape, texts, what they give. */
final class TextEdges {
    private static final int MIN = Integer.MIN_VALUE;
    private static final int MAX = Integer.MAX_VALUE;

    private final Edges e;

    TextEdges(Edges e) {
        this.e = e;
    }

    void run() {
        feed();
        feedBeyond();
        feedFull();
        text();
        textBeyond();
        textFault();
        signsBetween();
        oneComparison();
        digits();
        namesOfUses();
        noBlanks();
        open();
        faultPlace();
        faultEnd();
        wraps();
        byNull();
        truth();
        rows();
        leapsHeld();
        leapsWithout();
        worthHeld();
        worthWithout();
        untell();
        untellBeyond();
        law();
        lawBeyond();
    }

    /** What text() answers: the place of a fault, or -1 if there is none. */
    private static int fault(int use, String text) {
        int answer = Dues.read(new HandTown(), use, text);
        return answer == 1 ? -1 : -10 - answer;
    }

    private void reads(String... texts) {
        for (String text : texts) {
            e.due("LEAPS read " + text, fault(0, text), -1);
        }
    }

    private void fails(String text, int place) {
        e.due("LEAPS read " + text, fault(0, text), place);
    }

    /** WORTH by a text with its names r, k, n. */
    private void gives(String text, int r, int k, int n, int want) {
        HandTown x = new HandTown();
        e.due(text + " is a text", Dues.read(x, 1, text), 1);
        e.due(text + " of " + r + ", " + k + ", " + n, x.law(1, r, k, n), want);
    }

    private void feed() {
        e.promise(12, "The n lowest bytes (1 .. 8) of a word, the lowest first, come to THE TAPE: how many there are");
        HandTown x = new HandTown();
        e.due("1 byte", x.feed(Dues.word("7xxxxxxx"), 1), 1);
        e.due("8 bytes", x.feed(Dues.word("*100+20*"), 8), 9);
        e.due("2 bytes", x.feed(Dues.word("1/xxxxxx"), 2), 11);
        e.due("1 byte", x.feed(-1L << 8 | '2', 1), 12);
        e.due("count(4)", x.count(4), 12);
        e.due("7*100+20*1/2 is a text", x.text(1), 1);
        e.due("it gives", x.law(1, 0, 0, 0), 710);
        for (int n = 1; n <= 8; n++) {
            e.due("feed of " + n, x.feed(0x3131313131313131L, n), n * (n + 1) / 2);
        }
        HandTown y = new HandTown();
        e.due("the eighth byte, of the highest bits", y.feed(Dues.word("1+1+1+1!"), 8), 8);
        e.due("it is the last", y.text(0), -10 - 7);
    }

    private void feedBeyond() {
        e.promise(12, "BEYOND");
        HandTown x = new HandTown();
        e.refuses(Dues.BEYOND, "n", v -> x.feed(Dues.word("11111111"), v), -1, 0, 9);
        e.due("no byte came of it", x.count(4), 0);
        HandTown full = new HandTown();
        Dues.feed(full, "1".repeat(60));
        e.all("asked ahead of FULL", Dues.BEYOND, full.feed(0L, 0), full.feed(0L, 9), full.feed(0L, MAX), full.feed(0L, MIN));
    }

    private void feedFull() {
        e.promise(12, "FULL");
        HandTown x = new HandTown();
        for (int i = 1; i <= 7; i++) {
            e.due("8 more", x.feed(Dues.word("+1+1+1+1"), 8), 8 * i);
        }
        e.all("61 to 64", Dues.FULL, x.feed(0L, 5), x.feed(0L, 6), x.feed(0L, 7), x.feed(0L, 8));
        e.due("no byte of it came", x.count(4), 56);
        e.due("60", x.feed(Dues.word("+1+1"), 4), 60);
        e.all("61 to 68", Dues.FULL, x.feed(0L, 1), x.feed(0L, 8));
        e.due("count(4)", x.count(4), 60);
        e.due("a sign is no first byte", x.text(0), -10);
        e.due("there is room again", x.feed(0L, 8), 8);
        HandTown y = new HandTown();
        Dues.feed(y, "1".repeat(59));
        e.due("61 from 59 on", y.feed(0L, 2), Dues.FULL);
        e.due("60 from 59 on", y.feed(0L, 1), 60);
    }

    private void text() {
        e.promise(13, "THE TAPE, which is empty then, is the TEXT of a USE (0, 1), in place of one ahead: 1");
        HandTown x = new HandTown();
        e.due("m*2", Dues.read(x, 0, "m*2"), 1);
        e.due("THE TAPE is empty", x.count(4), 0);
        e.due("m*2 of 7", x.law(0, 7, 0, 0), 14);
        e.due("r*2", Dues.read(x, 1, "r*2+100"), 1);
        e.due("r*2+100 of 7", x.law(1, 7, 0, 0), 114);
        e.due("a shorter one", Dues.read(x, 1, "5"), 1);
        e.due("in place of the one ahead", x.law(1, 7, 0, 0), 5);
        e.due("a longer one", Dues.read(x, 0, "m*2+m*1"), 1);
        e.due("in place of the one ahead", x.law(0, 7, 0, 0), 21);
        e.due("the other USE keeps its own", x.law(1, 7, 0, 0), 5);
        e.due("60 bytes", Dues.read(x, 1, "1" + "+1".repeat(28) + "+99"), 1);
        e.due("60 bytes give", x.law(1, 0, 0, 0), 128);
        e.due("60 bytes, each of which counts", Dues.read(x, 1, "!r" + "+1".repeat(29)), 1);
        e.due("they give", x.law(1, 0, 0, 0), 30);
        e.due("2 bytes", Dues.read(x, 1, "!r"), 1);
        e.due("they give", x.law(1, 0, 0, 0), 1);
        Dues.read(x, 1, "r*!k");
        e.due("2 bytes in place of a sign", Dues.read(x, 1, "!r"), 1);
        e.due("they give", x.law(1, 0, 0, 0), 1);
    }

    private void textBeyond() {
        e.promise(13, "BEYOND (THE TAPE stays)");
        HandTown x = new HandTown();
        Dues.feed(x, "m+4");
        e.refuses(Dues.BEYOND, "USE", x::text, -1, 2, 3);
        e.due("THE TAPE stays", x.count(4), 3);
        e.due("it is a text still", x.text(0), 1);
        e.due("it gives", x.law(0, 5, 0, 0), 9);
        HandTown y = new HandTown();
        e.all("of an empty TAPE", Dues.BEYOND, y.text(-1), y.text(2));
    }

    private void textFault() {
        e.promise(13, "-10 less the FAULT (no ERROR; the one ahead stays; THE TAPE is empty, too)");
        HandTown x = new HandTown();
        Dues.read(x, 0, "m*2");
        e.due("m+", Dues.read(x, 0, "m+"), -12);
        e.due("THE TAPE is empty", x.count(4), 0);
        e.due("the one ahead stays", x.law(0, 7, 0, 0), 14);
        e.due("an empty TAPE", x.text(0), -10);
        e.due("the one ahead stays", x.law(0, 7, 0, 0), 14);
        e.due("59 signs and a blank", Dues.read(x, 0, "1" + "+1".repeat(29) + " "), -10 - 59);
        e.due("60 bytes that go on", Dues.read(x, 0, "1+".repeat(30)), -10 - 60);
        e.due("the one ahead stays", x.law(0, 7, 0, 0), 14);
        e.due("WORTH has none", Dues.read(x, 1, "m"), -10);
        e.due("none is there", x.untell(1), 0);
        for (int k = 1; k <= 6; k++) {
            e.due("no ERROR " + k, x.told(k), 0);
        }
    }

    private void signsBetween() {
        e.term("T: A { | A }. A: B { & B }.");
        reads("m", "m|t", "m&t", "m|t|h", "m&t&h", "m|t&h|1&2");
        fails("m|", 2);
        fails("m&", 2);
        fails("|m", 0);
        fails("&m", 0);
        fails("m||t", 2);
        fails("m&&t", 2);
        fails("m&|t", 2);
        gives("r|k&n", 1, 0, 0, 1);
        gives("r&k|n", 0, 0, 1, 1);
    }

    private void oneComparison() {
        e.term("B: S, or S < S, S = S, S > S.");
        reads("m<t", "m=t", "m>t", "m+1<t-1", "m<t&t<h|m=h", "(m<t)<h", "m<(t<h)", "m<t&h>t");
        fails("m<t<h", 3);
        fails("m<t=h", 3);
        fails("m=t>h", 3);
        fails("m+1<t+2=h", 7);
        fails("(m<t>h)", 4);
        fails("m<=t", 2);
        fails("m==t", 2);
        fails("<m", 0);
        fails("m<", 2);
        fails("m>", 2);
        fails("m=", 2);
    }

    private void digits() {
        e.term("a NUMBER of 1 to 4 digits");
        reads("0", "9", "10", "999", "0000", "9999", "9999+9999");
        fails("10000", 4);
        fails("00000", 4);
        fails("m+12345", 6);
        fails("(12345)", 5);
        fails("12345678", 4);
        fails("12m", 2);
        fails("m1", 1);
        gives("9999=9998+1", 0, 0, 0, 1);
        gives("0012", 0, 0, 0, 12);
        gives("9/1", 0, 0, 0, 9);
        fails(":", 0);
        fails("1/:", 2);
        fails("/", 0);
    }

    private void namesOfUses() {
        e.term("NAMES m m, t the MINUTE, h how many HOUSES there are");
        reads("m", "t", "h", "m+t+h");
        for (String name : new String[] {"r", "k", "n", "M", "T", "H", "l", "s", "u", "g", "i", "\u00ed", "\u00f4"}) {
            e.due("LEAPS read " + name, fault(0, name), 0);
        }
        for (String name : new String[] {"m", "t", "h", "R", "q", "s", "j", "l", "o", "\u00f2"}) {
            e.due("WORTH read " + name, fault(1, name), 0);
        }
        e.due("WORTH read r+k+n", fault(1, "r+k+n"), -1);
        HandTown x = Towns.homes(Towns.hands(60, 0), 0, 0, 0, 0, 0, 0);
        x.person(19, 0);
        Towns.pass(x, 5);
        Dues.read(x, 0, "m");
        e.due("m", x.personIs(0, 3), 9 + 1);
        Dues.read(x, 0, "t");
        e.due("t", x.personIs(0, 3), 5 + 1);
        Dues.read(x, 0, "h");
        e.due("h", x.personIs(0, 3), 3 + 1);
    }

    private void noBlanks() {
        e.term("No blanks.");
        fails(" ", 0);
        fails(" m", 0);
        fails("m ", 1);
        fails("m +t", 1);
        fails("m+ t", 2);
        fails("1 2", 1);
        fails("( m)", 1);
        fails("(m )", 2);
        fails("! m", 1);
        fails("m\n", 1);
        fails("m\t", 1);
        fails("m\u0000", 1);
        fails("\u0000", 0);
        fails("m\u00a0", 1);
    }

    private void open() {
        e.term("At most 5 of ! and ( are open at once.");
        reads("!!!!!m", "(((((m)))))", "!(!(!m))", "((!!(m)))", "!!!!!m+!!!!!t", "(((((m)))))*(((((t)))))", "((((!m+!t))))");
        reads("!(!!!m)&!!!!!t", "(!m)*(!m)*(!m)*(!m)*(!m)*(!m)", "!m+!m+!m+!m+!m+!m+!m");
        fails("!!!!!!m", 5);
        fails("((((((m))))))", 5);
        fails("!(!(!(m)))", 5);
        fails("(((((!m)))))", 5);
        fails("!!!!!(m)", 5);
        fails("((((!!m))))", 5);
        fails("(((((m+(t))))))", 7);
        fails("((((m+!(t)))))", 7);
        fails("!!!!!m+!!!!!!t", 12);
        fails("(((((m)))))+((((((m))))))", 17);
        fails("!!!!!!", 5);
        fails("((((((", 5);
    }

    private void faultPlace() {
        e.term("FAULT: the place of the first byte with which no TEXT goes on");
        fails("+", 0);
        fails(")", 0);
        fails("()", 1);
        fails("m)", 1);
        fails("(m))", 3);
        fails("(m)t", 3);
        fails("(m)(t)", 3);
        fails("mt", 1);
        fails("m!", 1);
        fails("m(t)", 1);
        fails("!+m", 1);
        fails("m+*t", 2);
        fails("m--t", 2);
        fails("m*-t", 2);
        fails("(m+)", 3);
        fails("m;t", 1);
        fails("m,", 1);
        fails("m^t", 1);
        fails("m~", 1);
        fails("\u00ff", 0);
        fails("m\u00ff", 1);
        fails("m\u0080", 1);
        fails("m+\u00b1", 2);
        fails("1+1)+(1", 3);
    }

    private void faultEnd() {
        e.term("how many there are, if it ends too early");
        fails("", 0);
        fails("m+", 2);
        fails("m-", 2);
        fails("m*", 2);
        fails("m/", 2);
        fails("m%", 2);
        fails("!", 1);
        fails("!!!!!", 5);
        fails("(", 1);
        fails("(((((", 5);
        fails("(m", 2);
        fails("(((((m))))", 10);
        fails("(m|t&", 5);
        fails("m<t+", 4);
    }

    private void wraps() {
        e.term("Ints that wrap");
        gives("r+k<0", MAX, 1, 0, 1);
        gives("r+k", MAX, MIN, 0, -1);
        gives("r+k", MIN, MIN, 0, 0);
        gives("r-k>0", MIN, 1, 0, 1);
        gives("r-k", MIN, MAX, 0, 1);
        gives("0-r=r", MIN, 0, 0, 1);
        gives("r*k", 65536, 65536, 0, 0);
        gives("r*k+n", 1 << 30, 4, 5, 5);
        gives("r*k", MAX, MAX, 0, 1);
        gives("9999*9999*9999=r", 9999 * 9999 * 9999, 0, 0, 1);
        gives("r/k=r", MIN, -1, 0, 1);
        gives("r%k", MIN, -1, 0, 0);
        gives("r/k", MIN, MIN, 0, 1);
    }

    private void byNull() {
        e.term("/ cut, % the rest that it leaves, both by 0 are 0");
        gives("r/k", 7, 2, 0, 3);
        gives("r/k", -7, 2, 0, -3);
        gives("r/k", 7, -2, 0, -3);
        gives("r/k", -7, -2, 0, 3);
        gives("r/k", 1, 2, 0, 0);
        gives("r%k", 7, 4, 0, 3);
        gives("r%k", -7, 4, 0, -3);
        gives("r%k", 7, -4, 0, 3);
        gives("r%k", 4, 4, 0, 0);
        gives("r/k", 7, 0, 0, 0);
        gives("r%k", 7, 0, 0, 0);
        gives("r/k", MIN, 0, 0, 0);
        gives("r%k", MIN, 0, 0, 0);
        gives("r/(k-k)+1", 7, 3, 0, 1);
        gives("r%(k-k)+1", 7, 3, 0, 1);
        gives("r%k=0", 7, 1, 0, 1);
    }

    private void truth() {
        e.term("| & < = > ! are 1 or 0, what is not 0 being true");
        gives("r|k", 0, 0, 0, 0);
        gives("r|k", 0, -5, 0, 1);
        gives("r|k", MIN, 0, 0, 1);
        gives("r|k", 6, 9, 0, 1);
        gives("r&k", 2, 1, 0, 1);
        gives("r&k", MIN, -1, 0, 1);
        gives("r&k", 7, 0, 0, 0);
        gives("r&k", 0, 7, 0, 0);
        gives("r<k", 1, 2, 0, 1);
        gives("r<k", 2, 2, 0, 0);
        gives("r<k", 3, 2, 0, 0);
        gives("r<k", MIN, MAX, 0, 1);
        gives("r>k", 2, 1, 0, 1);
        gives("r>k", 2, 2, 0, 0);
        gives("r>k", MIN, MAX, 0, 0);
        gives("r=k", 2, 2, 0, 1);
        gives("r=k", 2, 3, 0, 0);
        gives("r=k", 3, 2, 0, 0);
        gives("!r", 0, 0, 0, 1);
        gives("!r", 1, 0, 0, 0);
        gives("!r", MIN, 0, 0, 0);
        gives("!!r", 5, 0, 0, 1);
        gives("!r+k", 0, 5, 0, 6);
        gives("!r*k", 0, 5, 0, 5);
        gives("!r/k", 0, 5, 0, 0);
        gives("!(r*k)", 0, 5, 0, 1);
        gives("!r=k", 0, 1, 0, 1);
    }

    private void rows() {
        e.term("S: P { + P, - P }. P: Q { * Q, / Q, % Q }.");
        gives("r-k-n", 10, 3, 2, 5);
        gives("r-k+n", 10, 3, 2, 9);
        gives("r/k/n", 100, 5, 2, 10);
        gives("r/k*n", 7, 2, 2, 6);
        gives("r%k%n", 17, 10, 4, 3);
        gives("r%k*n", 7, 4, 2, 6);
        gives("r+k*n", 2, 3, 4, 14);
        gives("r*k+n", 2, 3, 4, 10);
        gives("r-k/n", 10, 6, 2, 7);
        gives("r-(k-n)", 10, 3, 2, 9);
        gives("r+k<n", 1, 1, 2, 0);
        gives("r<k-n", 1, 4, 2, 1);
    }

    private void leapsHeld() {
        e.term("held within 0 .. 30; without a TEXT m by 3");
        HandTown x = new HandTown();
        Dues.read(x, 0, "m");
        e.due("30", x.law(0, 30, 0, 0), 30);
        e.due("29", x.law(0, 29, 0, 0), 29);
        e.all("31 and more", 30, x.law(0, 31, 0, 0), x.law(0, MAX, 0, 0));
        e.due("1", x.law(0, 1, 0, 0), 1);
        e.due("0", x.law(0, 0, 0, 0), 0);
        e.all("-1 and less", 0, x.law(0, -1, 0, 0), x.law(0, MIN, 0, 0));
    }

    private void leapsWithout() {
        e.term("without a TEXT m by 3 (cut; held likewise)");
        HandTown x = new HandTown();
        e.all("0 to 2", 0, x.law(0, 0, 9, 9), x.law(0, 1, 9, 9), x.law(0, 2, 9, 9));
        e.all("3 to 5", 1, x.law(0, 3, 0, 0), x.law(0, 4, 0, 0), x.law(0, 5, 0, 0));
        e.all("87 to 89", 29, x.law(0, 87, 0, 0), x.law(0, 89, 0, 0));
        e.all("90 and more", 30, x.law(0, 90, 0, 0), x.law(0, 93, 0, 0), x.law(0, MAX, 0, 0));
        e.all("less than 0", 0, x.law(0, -1, 0, 0), x.law(0, -3, 0, 0), x.law(0, MIN, 0, 0));
    }

    private void worthHeld() {
        e.term("held within -999 .. 999; without a TEXT 10 times r less k");
        HandTown x = new HandTown();
        Dues.read(x, 1, "r");
        e.due("998", x.law(1, 998, 0, 0), 998);
        e.due("999", x.law(1, 999, 0, 0), 999);
        e.all("1000 and more", 999, x.law(1, 1000, 0, 0), x.law(1, MAX, 0, 0));
        e.due("-998", x.law(1, -998, 0, 0), -998);
        e.due("-999", x.law(1, -999, 0, 0), -999);
        e.all("-1000 and less", -999, x.law(1, -1000, 0, 0), x.law(1, MIN, 0, 0));
    }

    private void worthWithout() {
        e.term("10 times r less k (ints that wrap; held likewise)");
        HandTown x = new HandTown();
        e.due("0 less 0", x.law(1, 0, 0, 99), 0);
        e.due("90 less 59", x.law(1, 9, 59, 0), 31);
        e.due("0 less 59", x.law(1, 0, 59, 0), -59);
        e.due("1000 less 1", x.law(1, 100, 1, 0), 999);
        e.due("1000 less 2", x.law(1, 100, 2, 0), 998);
        e.due("1000 less 0", x.law(1, 100, 0, 0), 999);
        e.due("-1000 less -1", x.law(1, -100, -1, 0), -999);
        e.due("-1000 less -2", x.law(1, -100, -2, 0), -998);
        e.due("-1000 less 0", x.law(1, -100, 0, 0), -999);
        e.due("10 times 429496730 is 4", x.law(1, 429496730, 0, 0), 4);
        e.due("0 less MIN is MIN", x.law(1, 0, MIN, 0), -999);
        e.due("-10 less MIN is above 0", x.law(1, -1, MIN, 0), 999);
        e.due("10 times MIN is 0", x.law(1, MIN, -7, 0), 7);
    }

    private void untell() {
        e.promise(14, "There is no TEXT of a USE any more: 1 if there was, else 0");
        HandTown x = new HandTown();
        e.all("there was none", 0, x.untell(0), x.untell(1));
        Dues.read(x, 0, "5");
        Dues.read(x, 1, "6");
        e.due("there was one", x.untell(0), 1);
        e.due("there is none", x.untell(0), 0);
        e.due("LEAPS without", x.law(0, 9, 0, 0), 3);
        e.due("WORTH keeps its own", x.law(1, 9, 0, 0), 6);
        e.due("there was one", x.untell(1), 1);
        e.due("there is none", x.untell(1), 0);
        e.due("WORTH without", x.law(1, 9, 0, 0), 90);
        Dues.read(x, 1, "r+");
        e.due("a FAULT is none", x.untell(1), 0);
        Dues.read(x, 1, "6");
        Dues.read(x, 1, "r+");
        e.due("one ahead of a FAULT is one", x.untell(1), 1);
        Dues.feed(x, "7");
        e.due("THE TAPE is none", x.untell(1), 0);
        e.due("THE TAPE stays", x.count(4), 1);
    }

    private void untellBeyond() {
        e.promise(14, "BEYOND");
        HandTown x = new HandTown();
        Dues.read(x, 0, "5");
        Dues.read(x, 1, "6");
        e.refuses(Dues.BEYOND, "USE", x::untell, -1, 2);
        e.due("LEAPS stay", x.law(0, 9, 0, 0), 5);
        e.due("WORTH stays", x.law(1, 9, 0, 0), 6);
    }

    private void law() {
        e.promise(15, "What a USE gives with its NAMES in order as a, b, c (any number)");
        HandTown x = new HandTown();
        Dues.read(x, 0, "m*9+t*3+h");
        e.due("LEAPS of 1, 2, 3", x.law(0, 1, 2, 3), 18);
        e.due("LEAPS of 0, 0, 1", x.law(0, 0, 0, 1), 1);
        e.due("LEAPS of any", x.law(0, MAX, MAX, 5 - 12 * MAX), 5);
        Dues.read(x, 1, "r*100+k*10+n");
        e.due("WORTH of 1, 2, 3", x.law(1, 1, 2, 3), 123);
        e.due("WORTH of -1, -2, -3", x.law(1, -1, -2, -3), -123);
        e.due("WORTH of any", x.law(1, MIN, MIN, -7), -7);
        e.due("nothing else is asked", x.count(0) + x.count(1) + x.count(2), 0);
    }

    private void lawBeyond() {
        e.promise(15, "BEYOND");
        HandTown x = new HandTown();
        e.refuses(Dues.BEYOND, "USE", v -> x.law(v, 3, 0, 0), -1, 2);
        Dues.read(x, 0, "5");
        e.refuses(Dues.BEYOND, "USE", v -> x.law(v, 3, 0, 0), -1, 2);
    }
}
