/** Promises 19 to 21 and 27: marks, and when they agree. */
public final class MarksTest {
    private static final Dues DUES = new Dues("MarksTest");

    public static void main(String[] args) {
        markAt();
        meet();
        meetAtTheEnd();
        council();
        councilAtTheEnd();
        fits();
        fitsWrong();
        DUES.end();
    }

    private static void due(String call, long got, long want) {
        DUES.due(call, got, want);
    }

    private static void pass(HandTown x, int minutes) {
        for (int left = minutes; left > 0; left -= 720) {
            x.minutes(Math.min(left, 720));
        }
    }

    private static void markAt() {
        HandTown x = new HandTown();
        x.hand(7, 100);
        x.hand(1440, 0);
        x.hand(1, 1439);
        due("markAt(0, 0)", x.markAt(0, 0), 17);
        due("markAt(0, 4)", x.markAt(0, 4), 51);
        due("markAt(0, 5)", x.markAt(0, 5), 0);
        due("markAt(0, 9999)", x.markAt(0, 9999), 42);
        due("markAt(1, 23)", x.markAt(1, 23), 0);
        due("markAt(1, 24)", x.markAt(1, 24), 1);
        due("markAt(1, 1439)", x.markAt(1, 1439), 59);
        due("markAt(1, 1440)", x.markAt(1, 1440), 0);
        due("markAt(2, 77)", x.markAt(2, 77), 0);
        due("markAt(0, 10000)", x.markAt(0, 10000), Dues.BEYOND);
        due("markAt(0, -1)", x.markAt(0, -1), Dues.BEYOND);
        due("markAt(3, 0)", x.markAt(3, 0), Dues.BEYOND);
        for (int wild : Dues.WILD) {
            due("markAt(" + wild + ", 0)", x.markAt(wild, 0), Dues.BEYOND);
            if (wild != 1440) {
                due("markAt(0, " + wild + ")", x.markAt(0, wild), Dues.BEYOND);
            }
        }
        pass(x, 24);
        due("markAt(1, 0) at 24", x.markAt(1, 0), 1);
        due("markAt(1, 24) at 24", x.markAt(1, 24), 2);
        pass(x, 9999 - 24);
        // 19998 and 100 leave 1 by 7; 19998 leaves 1278 by 1440
        due("markAt(0, 9999) at 9999", x.markAt(0, 9999), 8);
        due("markAt(1, 9999) at 9999", x.markAt(1, 9999), 53);
    }

    private static void meet() {
        HandTown x = new HandTown();
        x.hand(60, 0);
        x.hand(30, 0);
        x.hand(60, 30);
        due("meet(0, 1)", x.meet(0, 1), 0);
        due("meet(1, 0)", x.meet(1, 0), 0);
        due("meet(0, 2)", x.meet(0, 2), Dues.NONE);
        due("meet(1, 2): 0 and 0 at 30", x.meet(1, 2), 30);
        due("meet(1, 1)", x.meet(1, 1), Dues.BEYOND);
        due("meet(0, 3)", x.meet(0, 3), Dues.BEYOND);
        due("meet(3, 3)", x.meet(3, 3), Dues.BEYOND);
        due("meet(-1, 0)", x.meet(-1, 0), Dues.BEYOND);
        for (int wild : Dues.WILD) {
            due("meet(" + wild + ", 0)", x.meet(wild, 0), Dues.BEYOND);
            due("meet(0, " + wild + ")", x.meet(0, wild), Dues.BEYOND);
        }
        x.minutes(1);
        due("meet(0, 1) behind 1", x.meet(0, 1), 59);
        due("meet(1, 2) behind 1", x.meet(1, 2), 29);
        due("MINUTE stays", x.count(3), 1);
    }

    private static void meetAtTheEnd() {
        HandTown x = new HandTown();
        x.hand(798, 1167);
        x.hand(1375, 317);
        due("meet(0, 1) at 1440", x.meet(0, 1), 1440);
        x = new HandTown();
        x.hand(549, 1074);
        x.hand(424, 1344);
        due("meet(0, 1): 1441 is too late", x.meet(0, 1), Dues.NONE);
        x.minutes(1);
        due("meet(0, 1) behind 1", x.meet(0, 1), 1440);
        pass(x, 9998);
        due("meet(0, 1) at 9999", x.meet(0, 1), 756);
        due("MARK of 0 at 10755: 11829 leaves 300 by 549", x.markAt(0, 756), 32);
        due("MARK of 1 at 10755: 12099 leaves 227 by 424", x.markAt(1, 756), 32);
    }

    private static void council() {
        HandTown x = new HandTown();
        due("council() without hands", x.council(), Dues.STATE);
        x.hand(60, 7);
        due("council() of one", x.council(), 0);
        x.hand(30, 7);
        // 7 and 14; 0 and 0 at 53
        due("council() of two", x.council(), 53);
        x.hand(20, 7);
        due("council() of three: 0 at 53", x.council(), 53);
        x.minutes(53);
        due("council() at 53", x.council(), 0);
        x.hand(60, 8);
        due("council() of four: one never meets", x.council(), Dues.NONE);
        x.frost(3, 1);
        due("council() behind frost", x.council(), 0);
        x.minutes(1);
        due("council() behind 1: 60 is all turns", x.council(), 59);
        due("MINUTE stays", x.count(3), 54);
    }

    private static void councilAtTheEnd() {
        HandTown x = new HandTown();
        x.hand(1, 0);
        x.hand(60, 21);
        x.hand(59, 31);
        x.hand(53, 18);
        due("council() at 9999", x.council(), 9999);
        x.minutes(1);
        due("council() behind 1", x.council(), 9998);
        x = new HandTown();
        x.hand(1, 0);
        x.hand(60, 20);
        x.hand(59, 30);
        x.hand(53, 17);
        due("council(): 10000 is too late", x.council(), Dues.NONE);
        pass(x, 9999);
        due("council() at 9999, for 10000", x.council(), 1);
    }

    private static void fits() {
        HandTown x = new HandTown();
        x.hand(60, 5);
        x.hand(30, 4);
        x.hand(60, 5);
        x.sheet(0, 8, 3);
        due("fits(0): 0, 0, 0", x.fits(0), 0);
        x.put(0, 0, 5);
        x.put(0, 1, 6);
        x.put(0, 2, 7);
        due("fits(0): 5, 6, 7", x.fits(0), 5);
        x.minutes(1);
        due("fits(0) behind 1", x.fits(0), 0);
        x.put(0, 0, 10);
        x.put(0, 1, 12);
        x.put(0, 2, 14);
        due("fits(0): 10, 12, 14", x.fits(0), 2);
        x.put(0, 2, 15);
        due("fits(0): 10, 12, 15", x.fits(0), 0);
        x.sheet(1, 32, 0);
        due("fits of an empty sheet", x.fits(1), 7);
        x.sheet(1, 16, 1);
        x.put(1, 0, 6);
        due("fits of one number", x.fits(1), 5);
        x.sheet(2, 32, 24);
        for (int i = 0; i < 24; i++) {
            x.put(2, i, (10 + 2 * i) % 60);
        }
        due("fits of 24 numbers", x.fits(2), 2);
        x.put(2, 23, 57);
        due("fits of 24 numbers, the last one wrong", x.fits(2), 0);
        x.put(2, 23, 56 + 256);
        due("fits of 24 numbers of 32 bits, the last one wrong", x.fits(2), 0);
    }

    private static void fitsWrong() {
        HandTown x = new HandTown();
        due("fits(0)", x.fits(0), Dues.NONE);
        due("fits(4)", x.fits(4), Dues.BEYOND);
        due("fits(-1)", x.fits(-1), Dues.BEYOND);
        for (int wild : Dues.WILD) {
            due("fits(" + wild + ")", x.fits(wild), Dues.BEYOND);
        }
        x.sheet(3, 8, 2);
        due("fits(3) without hands", x.fits(3), 0);
        x.sheet(3, 0, 2);
        due("fits(3), missing again", x.fits(3), Dues.NONE);
    }
}
