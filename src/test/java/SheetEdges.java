/** Sentences of promises 30 to 34, and what they rest on: sheets. */
final class SheetEdges {
    private static final int MIN = Integer.MIN_VALUE;
    private static final int MAX = Integer.MAX_VALUE;
    private static final int[] BITS = {8, 16, 32};

    private final Edges e;

    SheetEdges(Edges e) {
        this.e = e;
    }

    void run() {
        sheet();
        sheetMissing();
        sheetBeyond();
        sheetState();
        put();
        putNoSheet();
        putMissing();
        putNoNumber();
        move();
        moveNoSheet();
        moveMissing();
        moveUnlike();
        moveNotThere();
        offsets();
        offsetsNoSheet();
        offsetsMissing();
        judge();
        judgeNoSheet();
        judgeMissing();
    }

    /** Four HANDS of a day, whose OFFSETS show a SHEET's first numbers. */
    private static HandTown town() {
        return Towns.hands(1440, 1, 1440, 1, 1440, 1, 1440, 1);
    }

    /** The SHEET's numbers from i on, up to four of them, by way of another SHEET and of OFFSETS. */
    private void shows(HandTown x, int sheet, int bits, int i, int... numbers) {
        x.sheet(3, bits, numbers.length);
        e.due("they stand there", x.move(sheet, i, 3, 0, numbers.length), numbers.length);
        e.due("they are OFFSETS", x.offsets(3), numbers.length);
        for (int hand = 0; hand < numbers.length; hand++) {
            e.due("number " + (i + hand) + " of SHEET " + sheet, x.handIs(hand, 1), numbers[hand]);
        }
    }

    private void sheet() {
        e.promise(30, "A SHEET has n numbers, all 0, of so many bits (8, 16, 32; 0: it is missing, n doesn't matter): 1");
        HandTown x = town();
        for (int bits : BITS) {
            e.due("no numbers of " + bits, x.sheet(0, bits, 0), 1);
            e.due("there is none", x.put(0, 0, 0), Dues.BEYOND);
            e.due("24 numbers of " + bits, x.sheet(0, bits, 24), 1);
            e.due("the last", x.put(0, 23, 5), 1);
            e.due("no more", x.put(0, 24, 0), Dues.BEYOND);
            shows(x, 0, bits, 20, 0, 0, 0, 5);
            shows(x, 0, bits, 0, 0, 0, 0, 0);
            e.due("2 numbers of " + bits, x.sheet(0, bits, 2), 1);
            e.due("the last", x.put(0, 1, 6), 1);
            e.due("no more", x.put(0, 2, 0), Dues.BEYOND);
            e.due("24 numbers of " + bits, x.sheet(0, bits, 24), 1);
            shows(x, 0, bits, 0, 0, 0, 0, 0);
            shows(x, 0, bits, 20, 0, 0, 0, 0);
        }
        e.all("each SHEET", 1, x.sheet(0, 8, 1), x.sheet(1, 8, 1), x.sheet(2, 8, 1), x.sheet(3, 8, 1));
        e.all("missing", 1, x.sheet(0, 0, 1), x.sheet(1, 0, -1), x.sheet(2, 0, 25), x.sheet(3, 0, MIN), x.sheet(3, 0, MAX));
        e.all("they are", Dues.NONE, x.judge(0), x.judge(1), x.judge(2), x.judge(3));
        Towns.fill(x, 1, 16, 7, 8, 9);
        x.sheet(1, 0, 0);
        x.sheet(1, 16, 3);
        shows(x, 1, 16, 0, 0, 0, 0);
    }

    private void sheetMissing() {
        e.term("SHEETS 0 .. 3 are rows of 8, 16, 32 bits, at most 24 numbers, or missing (as at first).");
        HandTown x = new HandTown();
        for (int sheet = 0; sheet <= 3; sheet++) {
            e.all("as at first", Dues.NONE, x.put(sheet, 0, 0), x.offsets(sheet), x.judge(sheet), x.fits(sheet));
        }
        for (int sheet = 0; sheet <= 3; sheet++) {
            e.due("24 numbers", x.sheet(sheet, BITS[sheet % 3], 24), 1);
            e.due("25 numbers", x.sheet(sheet, BITS[sheet % 3], 25), Dues.BEYOND);
        }
        e.due("a fifth SHEET", x.sheet(4, 8, 1), Dues.BEYOND);
    }

    private void sheetBeyond() {
        e.promise(30, "BEYOND");
        HandTown x = Towns.fill(town(), 0, 16, 7, 8);
        e.refuses(Dues.BEYOND, "SHEET", v -> x.sheet(v, 8, 1), -1, 4);
        e.refuses(Dues.BEYOND, "SHEET of no bits", v -> x.sheet(v, 0, 0), -1, 4);
        e.refuses(Dues.BEYOND, "bits", v -> x.sheet(0, v, 1), -32, -8, -1, 1, 2, 4, 7, 9, 15, 17, 24, 31, 33, 40, 64);
        for (int bits : BITS) {
            e.all("n", Dues.BEYOND, x.sheet(0, bits, 25), x.sheet(0, bits, 26), x.sheet(0, bits, MAX));
        }
        e.all("asked ahead of STATE", Dues.BEYOND, x.sheet(4, 8, -1), x.sheet(-1, 16, -1), x.sheet(0, 7, -1), x.sheet(0, 64, -1));
        shows(x, 0, 16, 0, 7, 8);
        e.due("no more", x.put(0, 2, 0), Dues.BEYOND);
    }

    private void sheetState() {
        e.promise(30, "STATE: n is below 0 (ahead of BEYOND of n)");
        HandTown x = Towns.fill(town(), 0, 16, 7, 8);
        for (int bits : BITS) {
            e.all("n", Dues.STATE, x.sheet(0, bits, -1), x.sheet(0, bits, -2), x.sheet(0, bits, MIN));
        }
        e.due("a missing one", x.sheet(1, 8, -1), Dues.STATE);
        e.due("it is missing still", x.judge(1), Dues.NONE);
        shows(x, 0, 16, 0, 7, 8);
    }

    private void put() {
        e.promise(31, "Number i of a SHEET becomes v (its lowest bits): 1");
        HandTown x = town();
        x.sheet(0, 8, 24);
        e.all("8 bits", 1, x.put(0, 0, 127), x.put(0, 1, 256 + 5), x.put(0, 2, 6 - 256), x.put(0, 3, MIN + 7), x.put(0, 23, 65536 + 9));
        shows(x, 0, 8, 0, 127, 5, 6, 7);
        shows(x, 0, 8, 20, 0, 0, 0, 9);
        x.sheet(1, 16, 24);
        e.all("16 bits", 1, x.put(1, 0, 1439), x.put(1, 1, 65536 + 256), x.put(1, 2, 258 - 65536), x.put(1, 3, MIN + 300),
            x.put(1, 23, 1 << 20));
        shows(x, 1, 16, 0, 1439, 256, 258, 300);
        shows(x, 1, 16, 20, 0, 0, 0, 0);
        x.sheet(2, 32, 24);
        e.all("32 bits", 1, x.put(2, 0, 1439), x.put(2, 1, 0), x.put(2, 2, 65536), x.put(2, 23, 1));
        e.due("65536 is no OFFSET", x.offsets(2), 2);
        e.due("256 as 8 bits", Towns.fill(town(), 0, 8, 256).offsets(0), 1);
        e.due("65536 as 16 bits", Towns.fill(town(), 0, 16, 65536).offsets(0), 1);
        e.due("MIN as 16 bits", Towns.fill(town(), 0, 16, MIN).offsets(0), 1);
        e.due("MIN as 32 bits", Towns.fill(town(), 0, 32, MIN).offsets(0), 0);
        x.put(0, 0, 1);
        e.due("once more", x.put(0, 0, 2), 1);
        shows(x, 0, 8, 0, 2, 5);
    }

    private void putNoSheet() {
        e.promise(31, "BEYOND: no such SHEET");
        HandTown x = Towns.fill(new HandTown(), 0, 8, 5);
        Towns.fill(x, 3, 8, 5);
        e.refuses(Dues.BEYOND, "SHEET", v -> x.put(v, 0, 1), -1, 4);
        e.all("the first and the last", 1, x.put(0, 0, 5), x.put(3, 0, 5));
    }

    private void putMissing() {
        e.promise(31, "NONE: it is missing");
        HandTown x = new HandTown();
        e.all("as at first", Dues.NONE, x.put(0, 0, 1), x.put(1, 0, 1), x.put(2, 0, 1), x.put(3, 0, 1));
        e.all("asked ahead of the number", Dues.NONE, x.put(0, -1, 1), x.put(0, 24, 1), x.put(0, MAX, 1), x.put(0, MIN, 1));
        Towns.fill(x, 0, 8, 5);
        x.sheet(0, 0, 0);
        e.due("missing again", x.put(0, 0, 1), Dues.NONE);
    }

    private void putNoNumber() {
        e.promise(31, "BEYOND: no such number");
        HandTown x = Towns.fill(town(), 0, 8, 5, 6);
        e.refuses(Dues.BEYOND, "i", v -> x.put(0, v, 1), -1, 2, 3, 23, 24);
        shows(x, 0, 8, 0, 5, 6);
        x.sheet(1, 32, 0);
        e.refuses(Dues.BEYOND, "of none: i", v -> x.put(1, v, 1), -1, 0, 1);
        x.sheet(2, 16, 24);
        e.refuses(Dues.BEYOND, "of 24: i", v -> x.put(2, v, 1), -1, 24, 25);
    }

    private void move() {
        e.promise(32, "n numbers of a SHEET, from number i on, come to another one (or the same), from its number j on, "
            + "as they all were: n");
        HandTown x = Towns.fill(town(), 0, 8, 1, 2, 3, 4);
        Towns.fill(x, 1, 8, 11, 12, 13, 14, 15);
        e.all("none", 0, x.move(0, 0, 1, 0, 0), x.move(0, 4, 1, 5, 0), x.move(1, 5, 1, 0, 0), x.move(0, 0, 0, 4, 0));
        shows(x, 1, 8, 0, 11, 12, 13, 14);
        e.due("one: the last to the last", x.move(0, 3, 1, 4, 1), 1);
        shows(x, 1, 8, 1, 12, 13, 14, 4);
        e.due("all of it", x.move(0, 0, 1, 1, 4), 4);
        shows(x, 1, 8, 0, 11, 1, 2, 3);
        shows(x, 1, 8, 4, 4);
        shows(x, 0, 8, 0, 1, 2, 3, 4);
        e.due("the same, one on", x.move(0, 0, 0, 1, 3), 3);
        shows(x, 0, 8, 0, 1, 1, 2, 3);
        e.due("the same, one back", x.move(0, 1, 0, 0, 3), 3);
        shows(x, 0, 8, 0, 1, 2, 3, 3);
        e.due("the same, where they are", x.move(0, 0, 0, 0, 4), 4);
        shows(x, 0, 8, 0, 1, 2, 3, 3);
        Towns.fill(x, 2, 32, 1, 2, 3, 4);
        e.due("the same of 32, one on", x.move(2, 0, 2, 1, 3), 3);
        shows(x, 2, 32, 0, 1, 1, 2, 3);
        Towns.fill(x, 2, 16, 1, 2, 3, 1439);
        e.due("the same of 16, two back", x.move(2, 2, 2, 0, 2), 2);
        shows(x, 2, 16, 0, 3, 1439, 3, 1439);
        x.sheet(0, 32, 24);
        x.sheet(1, 32, 24);
        e.due("24 numbers", x.move(0, 0, 1, 0, 24), 24);
        x.sheet(0, 32, 0);
        e.due("none of none", x.move(0, 0, 0, 0, 0), 0);
    }

    private void moveNoSheet() {
        e.promise(32, "BEYOND: no such SHEET");
        HandTown x = Towns.fill(town(), 0, 8, 1, 2);
        e.refuses(Dues.BEYOND, "the one", v -> x.move(v, 0, 0, 0, 1), -1, 4);
        e.refuses(Dues.BEYOND, "the other", v -> x.move(0, 0, v, 0, 1), -1, 4);
        e.all("asked ahead of NONE", Dues.BEYOND, x.move(1, 0, 4, 0, 1), x.move(4, 0, 1, 0, 1), x.move(1, 0, -1, 0, 1),
            x.move(-1, 0, 1, 0, 1));
    }

    private void moveMissing() {
        e.promise(32, "NONE: one is missing");
        HandTown x = Towns.fill(town(), 0, 8, 1, 2);
        e.all("the one", Dues.NONE, x.move(1, 0, 0, 0, 1), x.move(2, 0, 0, 0, 0));
        e.all("the other", Dues.NONE, x.move(0, 0, 1, 0, 1), x.move(0, 0, 2, 0, 0));
        e.all("both", Dues.NONE, x.move(1, 0, 2, 0, 1), x.move(1, 0, 1, 0, 0));
        e.all("asked ahead of n, i, j", Dues.NONE, x.move(0, 0, 1, 0, -1), x.move(0, -1, 1, 0, 1), x.move(1, 0, 0, -1, 1),
            x.move(1, MAX, 0, MAX, MAX));
        x.sheet(0, 0, 0);
        e.due("missing again", x.move(0, 0, 0, 0, 0), Dues.NONE);
    }

    private void moveUnlike() {
        e.promise(32, "KIND: they are of unlike bits");
        HandTown x = Towns.fill(town(), 0, 8, 1, 2);
        Towns.fill(x, 1, 16, 3, 4);
        Towns.fill(x, 2, 32, 5, 6);
        e.all("one number", Dues.KIND, x.move(0, 0, 1, 0, 1), x.move(1, 0, 0, 0, 1), x.move(0, 0, 2, 0, 1),
            x.move(2, 0, 0, 0, 1), x.move(1, 0, 2, 0, 1), x.move(2, 0, 1, 0, 1));
        e.all("no number", Dues.KIND, x.move(0, 0, 1, 0, 0), x.move(2, 0, 1, 0, 0));
        e.all("asked ahead of n, i, j", Dues.KIND, x.move(0, 0, 1, 0, -1), x.move(0, -1, 1, 0, 1), x.move(0, 0, 1, -1, 1),
            x.move(0, 0, 1, 0, 3), x.move(0, MAX, 1, MAX, MAX));
        shows(x, 0, 8, 0, 1, 2);
        shows(x, 1, 16, 0, 3, 4);
        shows(x, 2, 32, 0, 5, 6);
    }

    private void moveNotThere() {
        e.promise(32, "BEYOND: n, i, or j is below 0, or they don't stand there");
        HandTown x = Towns.fill(town(), 0, 8, 1, 2, 3);
        Towns.fill(x, 1, 8, 4, 5);
        e.refuses(Dues.BEYOND, "n", v -> x.move(0, 0, 1, 0, v), -1, 3, 4);
        e.refuses(Dues.BEYOND, "n back", v -> x.move(1, 0, 0, 0, v), -1, 3, 4);
        e.refuses(Dues.BEYOND, "i", v -> x.move(0, v, 1, 0, 1), -1, 3, 4, 23);
        e.refuses(Dues.BEYOND, "i of none", v -> x.move(0, v, 1, 0, 0), -1, 4, 24);
        e.refuses(Dues.BEYOND, "j", v -> x.move(0, 0, 1, v, 1), -1, 2, 3, 23);
        e.refuses(Dues.BEYOND, "j of none", v -> x.move(0, 0, 1, v, 0), -1, 3, 24);
        e.refuses(Dues.BEYOND, "all", v -> x.move(0, v, 1, v, v), -1, 2, 3);
        e.refuses(Dues.BEYOND, "i and MAX", v -> x.move(0, v, 1, 0, MAX), -1, 0, 1);
        e.refuses(Dues.BEYOND, "j and MAX", v -> x.move(0, 0, 1, v, MAX), -1, 0, 1);
        e.refuses(Dues.BEYOND, "i and MIN", v -> x.move(0, v, 1, 0, MIN), -1, 0, 1);
        e.refuses(Dues.BEYOND, "the same, too FAR on", v -> x.move(0, 0, 0, v, 2), -1, 2, 3);
        e.refuses(Dues.BEYOND, "the same, too many", v -> x.move(0, v, 0, 0, 2), -1, 2, 3);
        shows(x, 0, 8, 0, 1, 2, 3);
        shows(x, 1, 8, 0, 4, 5);
    }

    private void offsets() {
        e.promise(33, "Numbers of a SHEET become OFFSETS of HANDS 0, 1, ..: how many, up to the first that is not 0 to 1439 "
            + "(no ERROR then), or for which there is no HAND");
        HandTown x = town();
        e.due("the least and the most", Towns.fill(x, 0, 32, 0, 1439, 0, 1439).offsets(0), 4);
        e.due("the first", x.handIs(0, 1), 0);
        e.due("the last", x.handIs(3, 1), 1439);
        e.due("TURN stays", x.handIs(3, 0), 1440);
        e.due("1440", Towns.fill(x, 0, 32, 7, 1440, 8).offsets(0), 1);
        e.due("the one ahead", x.handIs(0, 1), 7);
        e.due("its own stays", x.handIs(1, 1), 1439);
        e.due("the next stays", x.handIs(2, 1), 0);
        e.due("-1", Towns.fill(x, 0, 16, 3, 4, -1, 5).offsets(0), 2);
        e.due("the one ahead", x.handIs(1, 1), 4);
        e.due("its own stays", x.handIs(2, 1), 0);
        e.due("the next stays", x.handIs(3, 1), 1439);
        e.due("the first one is none", Towns.fill(x, 0, 8, -1, 5).offsets(0), 0);
        e.due("MIN", Towns.fill(x, 0, 32, MIN, 5).offsets(0), 0);
        e.due("MAX", Towns.fill(x, 0, 32, MAX, 5).offsets(0), 0);
        e.due("1440 in 16 bits", Towns.fill(x, 0, 16, 1440, 5).offsets(0), 0);
        e.due("a fifth", Towns.fill(x, 0, 32, 9, 10, 11, 12, 13).offsets(0), 4);
        e.due("the fourth", x.handIs(3, 1), 12);
        e.due("less numbers than HANDS", Towns.fill(x, 0, 32, 20).offsets(0), 1);
        e.due("the second stays", x.handIs(1, 1), 10);
        e.due("no number", Towns.fill(x, 0, 32).offsets(0), 0);
        e.due("no HAND", Towns.fill(new HandTown(), 0, 32, 5, 6).offsets(0), 0);
        e.due("one HAND", Towns.fill(Towns.hands(7, 0), 0, 32, 1000, 6).offsets(0), 1);
        e.all("no ERROR", 0, x.told(1), x.told(2), x.told(3), x.told(4), x.told(5), x.told(6));
    }

    private void offsetsNoSheet() {
        e.promise(33, "BEYOND: no such SHEET");
        HandTown x = Towns.fill(town(), 0, 8, 5);
        Towns.fill(x, 3, 8, 6);
        e.refuses(Dues.BEYOND, "SHEET", x::offsets, -1, 4);
        e.all("the first and the last", 1, x.offsets(0), x.offsets(3));
    }

    private void offsetsMissing() {
        e.promise(33, "NONE: it is missing");
        HandTown x = town();
        e.all("as at first", Dues.NONE, x.offsets(0), x.offsets(1), x.offsets(2), x.offsets(3));
        x.sheet(2, 8, 1);
        x.sheet(2, 0, 1);
        e.due("missing again", x.offsets(2), Dues.NONE);
        e.due("OFFSET stays", x.handIs(0, 1), 1);
    }

    /** Six in HOUSES 7, 0, 1, 2, 3, 4. */
    private static HandTown six() {
        HandTown x = Towns.homes(Towns.hands(60, 0), 0, 0, 0, 0, 0, 0, 0, 0, 0, 0, 0, 0, 0, 0, 0, 0);
        for (int i = 0; i < 6; i++) {
            x.person(0, i == 0 ? 7 : i - 1);
        }
        return x;
    }

    private void judge() {
        e.promise(34, "Numbers of a SHEET are the HOUSES in which SOMEBODY 0, 1, .. is: how many are right, from the first on");
        HandTown x = six();
        e.due("all", Towns.fill(x, 0, 8, 7, 0, 1, 2, 3, 4).judge(0), 6);
        e.due("one more than there are", Towns.fill(x, 0, 8, 7, 0, 1, 2, 3, 4, 5).judge(0), 6);
        e.due("one less", Towns.fill(x, 0, 16, 7, 0, 1, 2, 3).judge(0), 5);
        e.due("the last one wrong", Towns.fill(x, 0, 16, 7, 0, 1, 2, 3, 5).judge(0), 5);
        e.due("the third one wrong", Towns.fill(x, 0, 32, 7, 0, 0, 2, 3, 4).judge(0), 2);
        e.due("the first one wrong", Towns.fill(x, 0, 32, 6, 0, 1, 2, 3, 4).judge(0), 0);
        e.due("256 + 7 as 32 bits", Towns.fill(x, 0, 32, 256 + 7).judge(0), 0);
        e.due("256 + 7 as 8 bits", Towns.fill(x, 0, 8, 256 + 7).judge(0), 1);
        e.due("-1", Towns.fill(x, 0, 8, -1).judge(0), 0);
        e.due("no number", Towns.fill(x, 0, 8).judge(0), 0);
        e.due("nobody", Towns.fill(new HandTown(), 0, 8, 0, 0).judge(0), 0);
        e.due("nobody moved", x.personIs(0, 2), 7);
    }

    private void judgeNoSheet() {
        e.promise(34, "BEYOND: no such SHEET");
        HandTown x = Towns.fill(six(), 0, 8, 7);
        Towns.fill(x, 3, 8, 7);
        e.refuses(Dues.BEYOND, "SHEET", x::judge, -1, 4);
        e.all("the first and the last", 1, x.judge(0), x.judge(3));
    }

    private void judgeMissing() {
        e.promise(34, "NONE: it is missing");
        HandTown x = six();
        e.all("as at first", Dues.NONE, x.judge(0), x.judge(1), x.judge(2), x.judge(3));
        x.sheet(1, 32, 1);
        x.sheet(1, 0, 1);
        e.due("missing again", x.judge(1), Dues.NONE);
    }
}
