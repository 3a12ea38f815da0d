/** Sentences of promises 1 to 6, and what they rest on: hands and houses. */
final class TownEdges {
    private final Edges e;

    TownEdges(Edges e) {
        this.e = e;
    }

    void run() {
        newObject();
        hand();
        handBeyond();
        handFull();
        handIs();
        handIsBeyond();
        mark();
        apart();
        frost();
        frostBeyond();
        home();
        homeBeyond();
        homeFull();
        homeIs();
        homeIsBeyond();
    }

    private void newObject() {
        e.promise(1, "All as at first; no HANDS, no HOUSES, nobody, no TEXTS");
        HandTown x = new HandTown();
        e.all("count(0) to count(6)", 0, x.count(0), x.count(1), x.count(2), x.count(3), x.count(4), x.count(5), x.count(6));
        e.due("z", x.count(7), 1);
        e.all("told(1) to told(6)", 0, x.told(1), x.told(2), x.told(3), x.told(4), x.told(5), x.told(6));
        e.all("untell", 0, x.untell(0), x.untell(1));
        e.due("LEAPS without a text", x.law(0, 9, 1, 1), 3);
        e.due("WORTH without a text", x.law(1, 1, 2, 1), 8);
        e.all("numbers that wait", 0, x.check());
        e.all("sheets", Dues.NONE, x.judge(0), x.judge(1), x.judge(2), x.judge(3));
        e.all("trace and image", Dues.NONE, x.body(0), x.restore());
        e.all("nothing is there", Dues.BEYOND, x.handIs(0, 0), x.homeIs(0, 0), x.personIs(0, 0));
        e.due("images", x.image(), 1);
        e.due("another object", new HandTown().told(1), 0);
    }

    private void hand() {
        e.promise(2, "One more HAND: the number");
        HandTown x = new HandTown();
        e.due("hand(1, 0): the least", x.hand(1, 0), 0);
        e.due("hand(1440, 1439): the most", x.hand(1440, 1439), 1);
        e.due("hand(1, 1439)", x.hand(1, 1439), 2);
        e.due("hand(1440, 0): the fourth", x.hand(1440, 0), 3);
        e.due("count(0)", x.count(0), 4);
    }

    private void handBeyond() {
        e.promise(2, "BEYOND");
        HandTown x = new HandTown();
        e.refuses(Dues.BEYOND, "TURN", v -> x.hand(v, 0), -1, 0, 1441);
        e.refuses(Dues.BEYOND, "OFFSET", v -> x.hand(60, v), -1, 1440, 1441);
        e.due("none came of it", x.count(0), 0);
        HandTown full = Towns.hands(60, 0, 60, 0, 60, 0, 60, 0);
        e.all("asked ahead of FULL", Dues.BEYOND, full.hand(0, 0), full.hand(1441, 0), full.hand(1, -1), full.hand(1, 1440));
    }

    private void handFull() {
        e.promise(2, "FULL");
        HandTown x = Towns.hands(60, 1, 60, 2, 60, 3, 60, 4);
        e.all("a fifth", Dues.FULL, x.hand(1, 0), x.hand(1440, 1439));
        e.due("count(0)", x.count(0), 4);
        e.due("the fourth stays", x.handIs(3, 1), 4);
    }

    private void handIs() {
        e.promise(3, "Of a HAND: 0 TURN, 1 OFFSET, 2 THE MARK now, 3 HOUSES on it, as a set");
        HandTown x = Towns.hands(7, 1000, 1440, 1439, 1, 0);
        e.due("TURN", x.handIs(0, 0), 7);
        e.due("OFFSET above TURN", x.handIs(0, 1), 1000);
        e.due("MARK: 6 of 7", x.handIs(0, 2), 51);
        e.due("the most TURN", x.handIs(1, 0), 1440);
        e.due("the most OFFSET", x.handIs(1, 1), 1439);
        e.due("the most MARK", x.handIs(1, 2), 59);
        e.due("no HOUSES", x.handIs(0, 3), 0);
        Towns.homes(x, 0, 0, 1, 0, 1, 0, 1, 0, 1, 0, 1, 0, 1, 0, 0, 9);
        e.due("the first and the eighth", x.handIs(0, 3), 129);
        e.due("those between", x.handIs(1, 3), 126);
        e.due("still none", x.handIs(2, 3), 0);
        x.minutes(1);
        e.all("MARK goes round", 0, x.handIs(0, 2), x.handIs(1, 2), x.handIs(2, 2));
    }

    private void handIsBeyond() {
        e.promise(3, "BEYOND");
        HandTown x = Towns.hands(60, 0, 60, 0);
        for (int what = 0; what <= 3; what++) {
            e.all("no such HAND, what " + what, Dues.BEYOND, x.handIs(-1, what), x.handIs(2, what), new HandTown().handIs(0, what));
        }
        e.refuses(Dues.BEYOND, "HAND", v -> x.handIs(v, 0), -1, 2, 3, 4);
        e.refuses(Dues.BEYOND, "what", v -> x.handIs(0, v), -1, 4, 5);
        e.due("the last HAND is one", x.handIs(1, 0), 60);
    }

    private void mark() {
        e.term("the rest of t and OFFSET by TURN, times 60, by TURN (cut; 0 .. 59)");
        HandTown x = Towns.hands(1440, 0, 61, 0, 2, 1, 1, 1439);
        e.all("23 of 1440", 0, x.markAt(0, 0), x.markAt(0, 23), x.markAt(0, 1440), x.markAt(0, 1463));
        e.all("24 of 1440", 1, x.markAt(0, 24), x.markAt(0, 47), x.markAt(0, 1464));
        e.all("1416 of 1440", 59, x.markAt(0, 1416), x.markAt(0, 1439), x.markAt(0, 2879));
        e.due("1415 of 1440", x.markAt(0, 1415), 58);
        e.all("1 of 61", 0, x.markAt(1, 0), x.markAt(1, 1), x.markAt(1, 61));
        e.due("2 of 61", x.markAt(1, 2), 1);
        e.due("60 of 61", x.markAt(1, 60), 59);
        e.all("1 of 2", 30, x.markAt(2, 0), x.markAt(2, 2));
        e.all("0 of 2", 0, x.markAt(2, 1), x.markAt(2, 9999));
        e.all("0 of 1", 0, x.markAt(3, 0), x.markAt(3, 1), x.markAt(3, 9999));
    }

    private void apart() {
        e.term("APART two HANDS are by the difference of their MARKS, or 60 less that, whichever is less");
        int[] marks = {0, 1, 29, 30, 31, 58, 59};
        int[] aparts = {0, 1, 29, 30, 29, 2, 1};
        for (int i = 0; i < marks.length; i++) {
            HandTown x = Towns.pair(marks[i], 0, 0, 0);
            HandTown y = Towns.homes(Towns.hands(60, marks[i], 60, 0), 0, 0, 1, 0);
            y.person(0, 0);
            if (aparts[i] > 0) {
                Dues.read(x, 0, String.valueOf(aparts[i] - 1));
                Dues.read(y, 0, String.valueOf(aparts[i] - 1));
                e.all("MARKS 0 and " + marks[i] + ", one LEAP less", Dues.STATE, x.jump(0, 1), y.jump(0, 1));
            }
            Dues.read(x, 0, String.valueOf(aparts[i]));
            Dues.read(y, 0, String.valueOf(aparts[i]));
            e.all("MARKS 0 and " + marks[i], 0, x.jump(0, 1), y.jump(0, 1));
        }
    }

    private void frost() {
        e.promise(4, "Frost holds a HAND back by v (1 .. 99) MINUTES: OFFSET less v, "
            + "and TURN so often that it is 0 to TURN less 1: OFFSET");
        HandTown x = Towns.hands(12, 6, 7, 1439, 1440, 99, 1, 1439);
        e.due("6 less 1 of 12", x.frost(0, 1), 5);
        e.due("5 less 5 of 12", x.frost(0, 5), 0);
        e.due("0 less 1 of 12", x.frost(0, 1), 11);
        e.due("11 less 12 of 12", x.frost(0, 12), 11);
        e.due("11 less 11 of 12", x.frost(0, 11), 0);
        e.due("0 less 12 of 12", x.frost(0, 12), 0);
        e.due("0 less 99 of 12: eight turns and 3", x.frost(0, 99), 9);
        e.due("it is the OFFSET", x.handIs(0, 1), 9);
        e.due("1439 less 1 of 7: TURN less often", x.frost(1, 1), 3);
        e.due("99 less 99 of 1440", x.frost(2, 99), 0);
        e.due("0 less 99 of 1440", x.frost(2, 99), 1341);
        e.due("1341 less 1 of 1440", x.frost(2, 1), 1340);
        e.due("1439 less 1 of 1", x.frost(3, 1), 0);
        e.due("0 less 99 of 1", x.frost(3, 99), 0);
        e.due("MINUTE stays", x.count(3), 0);
        e.due("TURN stays", x.handIs(0, 0), 12);
        Towns.pass(x, 9999);
        e.due("at MINUTE 9999: 9 less 10", x.frost(0, 10), 11);
    }

    private void frostBeyond() {
        e.promise(4, "BEYOND");
        HandTown x = Towns.hands(60, 30);
        e.refuses(Dues.BEYOND, "HAND", v -> x.frost(v, 1), -1, 1, 4);
        e.refuses(Dues.BEYOND, "v", v -> x.frost(0, v), -1, 0, 100);
        e.due("without HANDS", new HandTown().frost(0, 1), Dues.BEYOND);
        e.due("OFFSET stays", x.handIs(0, 1), 30);
    }

    private void home() {
        e.promise(5, "One more HOUSE, on a HAND, so FAR: the number");
        HandTown x = Towns.hands(60, 0, 60, 0, 60, 0, 60, 0);
        int[] hands = {0, 3, 1, 2, 3, 0, 3, 3};
        int[] fars = {0, 9, 1, 8, 0, 9, 5, 9};
        for (int i = 0; i < 8; i++) {
            e.due("home(" + hands[i] + ", " + fars[i] + ")", x.home(hands[i], fars[i]), i);
        }
        for (int i = 0; i < 8; i++) {
            e.due("its HAND", x.homeIs(i, 0), hands[i]);
            e.due("FAR", x.homeIs(i, 1), fars[i]);
        }
        e.due("count(1)", x.count(1), 8);
    }

    private void homeBeyond() {
        e.promise(5, "BEYOND");
        HandTown x = Towns.hands(60, 0);
        e.due("without HANDS", new HandTown().home(0, 0), Dues.BEYOND);
        e.refuses(Dues.BEYOND, "HAND", v -> x.home(v, 0), -1, 1, 3, 4);
        e.refuses(Dues.BEYOND, "FAR", v -> x.home(0, v), -1, 10);
        e.due("none came of it", x.count(1), 0);
        Towns.homes(x, 0, 0, 0, 0, 0, 0, 0, 0, 0, 0, 0, 0, 0, 0, 0, 0);
        e.all("asked ahead of FULL", Dues.BEYOND, x.home(1, 0), x.home(0, 10), x.home(0, -1));
    }

    private void homeFull() {
        e.promise(5, "FULL");
        HandTown x = Towns.homes(Towns.hands(60, 0), 0, 0, 0, 1, 0, 2, 0, 3, 0, 4, 0, 5, 0, 6, 0, 7);
        e.all("a ninth", Dues.FULL, x.home(0, 0), x.home(0, 9));
        e.due("count(1)", x.count(1), 8);
        e.due("the eighth stays", x.homeIs(7, 1), 7);
    }

    private void homeIs() {
        e.promise(6, "Of a HOUSE: 0 HAND, 1 FAR, 2 THE MARK of its HAND now, 3 WORTH now (any number), "
            + "4 who is in it, as a set");
        HandTown x = Towns.homes(Towns.hands(60, 0, 60, 59), 1, 0, 0, 9);
        e.due("HAND", x.homeIs(0, 0), 1);
        e.due("FAR", x.homeIs(0, 1), 0);
        e.due("MARK", x.homeIs(0, 2), 59);
        e.due("the least WORTH without a text", x.homeIs(0, 3), -59);
        e.due("the most WORTH without a text", x.homeIs(1, 3), 90);
        e.due("nobody", x.homeIs(0, 4), 0);
        for (int person = 0; person < 6; person++) {
            x.person(60, person == 0 || person == 5 ? 0 : 1);
        }
        e.due("the first and the sixth", x.homeIs(0, 4), 33);
        e.due("those between", x.homeIs(1, 4), 30);
        x.jump(0, 1);
        x.jump(5, 1);
        e.due("nobody any more", x.homeIs(0, 4), 0);
        e.due("all six", x.homeIs(1, 4), 63);
        x.minutes(1);
        e.due("MARK goes round", x.homeIs(0, 2), 0);
        e.due("WORTH goes with it", x.homeIs(0, 3), 0);
        e.due("WORTH of the other one", x.homeIs(1, 3), 89);
    }

    private void homeIsBeyond() {
        e.promise(6, "BEYOND");
        HandTown x = Towns.homes(Towns.hands(60, 0), 0, 0, 0, 0);
        for (int what = 0; what <= 4; what++) {
            e.all("no such HOUSE, what " + what, Dues.BEYOND, x.homeIs(-1, what), x.homeIs(2, what), new HandTown().homeIs(0, what));
        }
        e.refuses(Dues.BEYOND, "HOUSE", v -> x.homeIs(v, 0), -1, 2, 7, 8);
        e.refuses(Dues.BEYOND, "what", v -> x.homeIs(0, v), -1, 5, 6);
        e.due("the last HOUSE is one", x.homeIs(1, 0), 0);
    }
}
