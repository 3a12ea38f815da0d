/** Sentences of promises 19 to 21 and 27: marks, and when they agree. */
final class MarkEdges {
    private final Edges e;

    MarkEdges(Edges e) {
        this.e = e;
    }

    void run() {
        markAt();
        markAtBeyond();
        behindTheLastMinute();
        meet();
        meetBeyond();
        meetNone();
        council();
        councilState();
        councilNone();
        fits();
        fitsBeyond();
        fitsNone();
    }

    private void markAt() {
        e.promise(19, "THE MARK of a HAND behind n (0 .. 9999) MINUTES");
        HandTown x = Towns.hands(7, 1000, 1440, 1439, 1440, 0);
        e.due("the least", x.markAt(0, 0), 51);
        e.due("1", x.markAt(0, 1), 0);
        e.due("the most: 10999 leaves 2 by 7", x.markAt(0, 9999), 17);
        e.due("the most: 11438 leaves 1358 by 1440", x.markAt(1, 9999), 56);
        e.due("0 of 1440", x.markAt(1, 1), 0);
        e.due("MINUTE stays", x.count(3), 0);
        x.minutes(24);
        e.due("24 of 1440", x.markAt(2, 0), 1);
        e.due("48 of 1440", x.markAt(2, 24), 2);
    }

    private void markAtBeyond() {
        e.promise(19, "BEYOND");
        HandTown x = Towns.hands(60, 0);
        e.refuses(Dues.BEYOND, "HAND", v -> x.markAt(v, 0), -1, 1, 4);
        e.refuses(Dues.BEYOND, "n", v -> x.markAt(0, v), -1, 10000);
        e.due("without HANDS", new HandTown().markAt(0, 0), Dues.BEYOND);
    }

    private void behindTheLastMinute() {
        e.term("(All this is only thought; MINUTE beyond 9999, too.)");
        HandTown x = Towns.pass(Towns.hands(7, 1000, 1440, 0, 60, 0, 60, 1), 9999);
        // 20998 leaves 5 by 7, 19998 leaves 1278 by 1440
        e.due("a MARK at 19998", x.markAt(0, 9999), 42);
        e.due("a MARK at 19998", x.markAt(1, 9999), 53);
        HandTown y = Towns.pass(Towns.hands(60, 0, 30, 0), 9999);
        e.due("a MEET at 10020", y.meet(0, 1), 21);
        e.due("a COUNCIL at 10020", y.council(), 21);
        HandTown at = Towns.pass(Towns.leapAt(9999), 9999);
        e.due("SOONEST at 10000", at.soonest(0, 1), 1);
        Dues.read(at, 0, "30*(t=9999+9)");
        e.due("SOONEST at 10009", at.soonest(0, 1), 10);
        e.due("ROOMS at 10008", at.rooms(0, 9), 1);
        e.due("ROOMS at 10009", at.rooms(0, 10), 3);
        e.due("WATCH by 9", at.watch(0, 1, 9, 0), 0);
        e.due("WATCH by 10", at.watch(0, 1, 10, 0), Dues.NONE);
        e.due("ODDS", at.odds(0, 1, 1), 60);
        Dues.read(at, 1, "n");
        e.due("BEST by 9", at.best(0, 9, 0), 0);
        e.due("BEST by 10", at.best(0, 10, 0), 1);
        Towns.fill(x, 0, 8, 39, 40, 41);
        e.due("FITS at 9999 to 10001", x.fits(0), 4);
        Towns.fill(x, 0, 8, 40, 41, 42);
        e.due("FITS at 9999 to 10001", x.fits(0), 8);
        e.all("MINUTE stays", 9999, x.count(3), y.count(3), at.count(3));
        e.due("one stays", at.personIs(0, 2), 0);
    }

    private void meet() {
        e.promise(20, "MEET");
        HandTown x = Towns.hands(60, 0, 30, 0, 30, 30, 798, 1167);
        e.all("now", 0, x.meet(0, 1), x.meet(1, 0), x.meet(1, 2));
        x.minutes(1);
        e.all("at 60", 59, x.meet(0, 1), x.meet(1, 0), x.meet(0, 2));
        HandTown y = Towns.hands(798, 1167, 1375, 317);
        e.all("the latest", 1440, y.meet(0, 1), y.meet(1, 0));
        e.due("MINUTE stays", y.count(3), 0);
        HandTown z = Towns.pass(Towns.hands(549, 1074, 424, 1344), 1);
        e.all("the latest, from MINUTE 1 on", 1440, z.meet(0, 1), z.meet(1, 0));
        HandTown far = Towns.hands(1440, 0, 1440, 0, 1440, 23, 1440, 24);
        e.all("of one MARK, though not of one place", 0, far.meet(0, 1), far.meet(0, 2));
        e.due("of 23 and 24: at 1", far.meet(2, 3), 1);
    }

    private void meetBeyond() {
        e.promise(20, "BEYOND: also one HAND twice");
        HandTown x = Towns.hands(60, 0, 60, 0);
        e.all("one HAND twice", Dues.BEYOND, x.meet(0, 0), x.meet(1, 1), x.meet(2, 2), x.meet(-1, -1));
        e.refuses(Dues.BEYOND, "the one", v -> x.meet(v, 0), -1, 2, 4);
        e.refuses(Dues.BEYOND, "the other", v -> x.meet(0, v), -1, 2, 4);
        e.due("without HANDS", new HandTown().meet(0, 1), Dues.BEYOND);
    }

    private void meetNone() {
        e.promise(20, "NONE: not by 1440");
        HandTown x = Towns.hands(60, 0, 60, 30, 60, 59);
        e.all("never", Dues.NONE, x.meet(0, 1), x.meet(1, 0), x.meet(0, 2));
        HandTown y = Towns.hands(549, 1074, 424, 1344);
        e.all("at 1441", Dues.NONE, y.meet(0, 1), y.meet(1, 0));
    }

    private void council() {
        e.promise(21, "COUNCIL");
        e.due("one HAND", Towns.hands(60, 7).council(), 0);
        HandTown x = Towns.hands(60, 7, 30, 7, 20, 7);
        e.due("three at 53", x.council(), 53);
        x.minutes(53);
        e.due("now", x.council(), 0);
        x.minutes(1);
        e.due("a turn on", x.council(), 59);
        HandTown last = Towns.hands(1, 0, 60, 21, 59, 31, 53, 18);
        e.due("the latest", last.council(), 9999);
        e.due("MINUTE stays", last.count(3), 0);
        HandTown next = Towns.pass(Towns.hands(1, 0, 60, 20, 59, 30, 53, 17), 1);
        e.due("the latest, from MINUTE 1 on", next.council(), 9999);
        HandTown four = Towns.hands(60, 0, 60, 0, 60, 0, 60, 1);
        e.due("the fourth is no less asked", four.council(), Dues.NONE);
        four.frost(3, 1);
        e.due("the fourth, too", four.council(), 0);
    }

    private void councilState() {
        e.promise(21, "STATE: there are no HANDS");
        HandTown x = new HandTown();
        e.due("council()", x.council(), Dues.STATE);
        x.hand(60, 0);
        e.due("council() of one", x.council(), 0);
        e.due("told(3)", x.told(3), 1);
    }

    private void councilNone() {
        e.promise(21, "NONE: not by 9999");
        e.due("never", Towns.hands(60, 0, 60, 30).council(), Dues.NONE);
        e.due("two of three never", Towns.hands(1, 0, 60, 0, 60, 30).council(), Dues.NONE);
        e.due("at 10000", Towns.hands(1, 0, 60, 20, 59, 30, 53, 17).council(), Dues.NONE);
    }

    private void fits() {
        e.promise(27, "FITS, by a SHEET");
        HandTown x = Towns.hands(60, 58, 30, 2, 60, 58, 60, 59);
        x.sheet(0, 8, 0);
        e.due("an empty one: all HANDS", x.fits(0), 15);
        e.due("an empty one without HANDS", Towns.fill(new HandTown(), 3, 8).fits(3), 0);
        e.due("no number, but no HAND either", Towns.fill(new HandTown(), 3, 8, 0, 0).fits(3), 0);
        Towns.fill(x, 1, 16, 58);
        e.due("one number", x.fits(1), 5);
        Towns.fill(x, 1, 16, 58, 59, 0);
        e.due("over the hour", x.fits(1), 5);
        Towns.fill(x, 1, 16, 59, 0, 1);
        e.due("over the hour", x.fits(1), 8);
        int[] marks = new int[24];
        for (int i = 0; i < 24; i++) {
            marks[i] = (2 + i) % 30 * 2;
        }
        Towns.fill(x, 2, 32, marks);
        e.due("24 numbers", x.fits(2), 2);
        x.put(2, 23, 51);
        e.due("the last one wrong", x.fits(2), 0);
        x.put(2, 23, 50);
        x.put(2, 0, 5);
        e.due("the first one wrong", x.fits(2), 0);
        Towns.fill(x, 1, 16, 59);
        x.minutes(1);
        e.due("now, not at first", x.fits(1), 5);
        e.due("MINUTE stays", x.count(3), 1);
    }

    private void fitsBeyond() {
        e.promise(27, "BEYOND");
        HandTown x = Towns.fill(Towns.hands(60, 0), 0, 8, 0);
        Towns.fill(x, 3, 8, 0);
        e.refuses(Dues.BEYOND, "SHEET", x::fits, -1, 4, 5);
        e.all("the first and the last", 1, x.fits(0), x.fits(3));
    }

    private void fitsNone() {
        e.promise(27, "NONE: the SHEET is missing");
        HandTown x = Towns.hands(60, 0);
        e.all("as at first", Dues.NONE, x.fits(0), x.fits(1), x.fits(2), x.fits(3));
        x.sheet(2, 8, 1);
        e.due("there", x.fits(2), 1);
        x.sheet(2, 0, 1);
        e.due("missing again", x.fits(2), Dues.NONE);
    }
}
