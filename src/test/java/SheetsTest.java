/** Promises 30 to 34: sheets. */
public final class SheetsTest {
    private static final Dues DUES = new Dues("SheetsTest");

    public static void main(String[] args) {
        sheet();
        sheetWrong();
        put();
        putWrong();
        move();
        moveOntoItself();
        moveWrong();
        offsets();
        offsetsOfBits();
        judge();
        DUES.end();
    }

    private static void due(String call, long got, long want) {
        DUES.due(call, got, want);
    }

    /** Four hands of a day each, whose offsets tell what a sheet's first four numbers are. */
    private static HandTown town() {
        HandTown x = new HandTown();
        for (int hand = 0; hand < 4; hand++) {
            x.hand(1440, 1);
        }
        return x;
    }

    /** Numbers of a sheet from the first on, as offsets show them. */
    private static void shows(HandTown x, int sheet, int... numbers) {
        due("offsets(" + sheet + ")", x.offsets(sheet), numbers.length);
        for (int i = 0; i < numbers.length; i++) {
            due("number " + i + " of sheet " + sheet, x.handIs(i, 1), numbers[i]);
        }
    }

    private static void fill(HandTown x, int sheet, int bits, int... numbers) {
        due("sheet(" + sheet + ", " + bits + ", ..)", x.sheet(sheet, bits, numbers.length), 1);
        for (int i = 0; i < numbers.length; i++) {
            due("put(" + sheet + ", " + i + ", " + numbers[i] + ")", x.put(sheet, i, numbers[i]), 1);
        }
    }

    private static void sheet() {
        HandTown x = town();
        for (int bits : new int[] {8, 16, 32}) {
            due("sheet(0, " + bits + ", 2)", x.sheet(0, bits, 2), 1);
            shows(x, 0, 0, 0);
            due("put(0, 1, 9)", x.put(0, 1, 9), 1);
            due("put(0, 2, 9)", x.put(0, 2, 9), Dues.BEYOND);
            shows(x, 0, 0, 9);
        }
        due("put(0, 0, 8)", x.put(0, 0, 8), 1);
        due("sheet(0, 32, 3): all 0 anew", x.sheet(0, 32, 3), 1);
        shows(x, 0, 0, 0, 0);
        due("sheet(3, 8, 0)", x.sheet(3, 8, 0), 1);
        due("judge(3), no number", x.judge(3), 0);
        due("sheet(3, 16, 24)", x.sheet(3, 16, 24), 1);
        due("put(3, 23, 1)", x.put(3, 23, 1), 1);
        due("sheet(3, 0, 5): missing", x.sheet(3, 0, 5), 1);
        due("judge(3), missing", x.judge(3), Dues.NONE);
        due("sheet(3, 0, -1): n doesn't matter", x.sheet(3, 0, -1), 1);
        due("sheet(3, 0, 99): n doesn't matter", x.sheet(3, 0, 99), 1);
        due("sheet(3, 0, MIN): n doesn't matter", x.sheet(3, 0, Integer.MIN_VALUE), 1);
        due("sheet 0 stays", x.judge(0), 0);
        fill(x, 2, 8, 5, 6, 7);
        due("sheet(2, 0, 0)", x.sheet(2, 0, 0), 1);
        due("sheet(2, 8, 3): all 0 behind having been missing", x.sheet(2, 8, 3), 1);
        shows(x, 2, 0, 0, 0);
    }

    private static void sheetWrong() {
        HandTown x = town();
        fill(x, 0, 16, 7, 8);
        due("sheet(0, 8, -1)", x.sheet(0, 8, -1), Dues.STATE);
        due("sheet(0, 32, MIN)", x.sheet(0, 32, Integer.MIN_VALUE), Dues.STATE);
        due("sheet(0, 8, 25)", x.sheet(0, 8, 25), Dues.BEYOND);
        due("sheet(0, 8, MAX)", x.sheet(0, 8, Integer.MAX_VALUE), Dues.BEYOND);
        due("sheet(0, 7, 1)", x.sheet(0, 7, 1), Dues.BEYOND);
        due("sheet(0, 64, 1)", x.sheet(0, 64, 1), Dues.BEYOND);
        due("sheet(0, 24, 1)", x.sheet(0, 24, 1), Dues.BEYOND);
        due("sheet(0, 1, 1)", x.sheet(0, 1, 1), Dues.BEYOND);
        due("sheet(0, -8, 1)", x.sheet(0, -8, 1), Dues.BEYOND);
        due("sheet(0, 9, -1): BEYOND is asked first", x.sheet(0, 9, -1), Dues.BEYOND);
        due("sheet(4, 8, -1): BEYOND is asked first", x.sheet(4, 8, -1), Dues.BEYOND);
        due("sheet(4, 0, 0)", x.sheet(4, 0, 0), Dues.BEYOND);
        due("sheet(-1, 0, 0)", x.sheet(-1, 0, 0), Dues.BEYOND);
        for (int wild : Dues.WILD) {
            due("sheet(" + wild + ", 8, 1)", x.sheet(wild, 8, 1), Dues.BEYOND);
            due("sheet(0, " + wild + ", 1)", x.sheet(0, wild, 1), Dues.BEYOND);
        }
        shows(x, 0, 7, 8);
    }

    private static void put() {
        HandTown x = town();
        fill(x, 0, 8, 127, 256 + 5, 0, -256 + 7);
        shows(x, 0, 127, 5, 0, 7);
        fill(x, 1, 16, 1439, 65536 + 5, -65536 + 300, 0x7fff0000 + 1000);
        shows(x, 1, 1439, 5, 300, 1000);
        fill(x, 2, 32, 1439, 0, 1, 2);
        shows(x, 2, 1439, 0, 1, 2);
        due("put(2, 0, 4)", x.put(2, 0, 4), 1);
        shows(x, 2, 4, 0, 1, 2);
        // marks and houses are small numbers, so that other bits would show
        fill(x, 3, 32, 65536);
        due("65536 as 32 bits is no offset", x.offsets(3), 0);
        fill(x, 3, 16, 65536);
        due("65536 as 16 bits is 0", x.offsets(3), 1);
        fill(x, 3, 16, 256);
        shows(x, 3, 256);
        fill(x, 3, 8, 256);
        shows(x, 3, 0);
    }

    private static void putWrong() {
        HandTown x = town();
        due("put(0, 0, 0), missing", x.put(0, 0, 0), Dues.NONE);
        due("put(0, -1, 0), missing: NONE is asked first", x.put(0, -1, 0), Dues.NONE);
        due("put(4, 0, 0)", x.put(4, 0, 0), Dues.BEYOND);
        due("put(-1, 0, 0)", x.put(-1, 0, 0), Dues.BEYOND);
        fill(x, 0, 8, 5, 6);
        due("put(0, 2, 0)", x.put(0, 2, 0), Dues.BEYOND);
        due("put(0, -1, 0)", x.put(0, -1, 0), Dues.BEYOND);
        for (int wild : Dues.WILD) {
            due("put(" + wild + ", 0, 0)", x.put(wild, 0, 0), Dues.BEYOND);
            due("put(0, " + wild + ", 0)", x.put(0, wild, 0), Dues.BEYOND);
        }
        shows(x, 0, 5, 6);
        x.sheet(1, 32, 0);
        due("put(1, 0, 0), no number", x.put(1, 0, 0), Dues.BEYOND);
    }

    private static void move() {
        HandTown x = town();
        fill(x, 0, 16, 1, 2, 3, 4);
        fill(x, 1, 16, 11, 12, 13, 14, 15);
        due("move(0, 1, 1, 2, 2)", x.move(0, 1, 1, 2, 2), 2);
        shows(x, 1, 11, 12, 2, 3);
        shows(x, 0, 1, 2, 3, 4);
        due("move(0, 0, 1, 0, 4)", x.move(0, 0, 1, 0, 4), 4);
        shows(x, 1, 1, 2, 3, 4);
        due("move(1, 4, 0, 3, 1): the last one", x.move(1, 4, 0, 3, 1), 1);
        shows(x, 0, 1, 2, 3, 15);
        due("move(0, 0, 1, 0, 0)", x.move(0, 0, 1, 0, 0), 0);
        due("move(0, 4, 1, 5, 0): at the ends", x.move(0, 4, 1, 5, 0), 0);
        shows(x, 1, 1, 2, 3, 4);
    }

    private static void moveOntoItself() {
        HandTown x = town();
        fill(x, 0, 8, 1, 2, 3, 4);
        due("move(0, 0, 0, 1, 3)", x.move(0, 0, 0, 1, 3), 3);
        shows(x, 0, 1, 1, 2, 3);
        due("move(0, 1, 0, 0, 3)", x.move(0, 1, 0, 0, 3), 3);
        shows(x, 0, 1, 2, 3, 3);
        due("move(0, 0, 0, 0, 4)", x.move(0, 0, 0, 0, 4), 4);
        shows(x, 0, 1, 2, 3, 3);
    }

    private static void moveWrong() {
        HandTown x = town();
        fill(x, 0, 8, 1, 2, 3);
        fill(x, 1, 8, 4, 5);
        fill(x, 2, 16, 6, 7);
        due("move(4, 0, 0, 0, 1)", x.move(4, 0, 0, 0, 1), Dues.BEYOND);
        due("move(0, 0, 4, 0, 1)", x.move(0, 0, 4, 0, 1), Dues.BEYOND);
        due("move(3, 0, 4, 0, 1): BEYOND is asked first", x.move(3, 0, 4, 0, 1), Dues.BEYOND);
        due("move(-1, 0, 3, 0, 1): BEYOND is asked first", x.move(-1, 0, 3, 0, 1), Dues.BEYOND);
        due("move(3, 0, 0, 0, 1)", x.move(3, 0, 0, 0, 1), Dues.NONE);
        due("move(0, 0, 3, 0, -1): NONE is asked first", x.move(0, 0, 3, 0, -1), Dues.NONE);
        due("move(3, 0, 3, 0, 0)", x.move(3, 0, 3, 0, 0), Dues.NONE);
        due("move(0, 0, 2, 0, 1)", x.move(0, 0, 2, 0, 1), Dues.KIND);
        due("move(2, 0, 0, 0, -1): KIND is asked first", x.move(2, 0, 0, 0, -1), Dues.KIND);
        due("move(2, 0, 0, 0, 0): KIND though nothing moves", x.move(2, 0, 0, 0, 0), Dues.KIND);
        due("move(0, 0, 1, 0, -1)", x.move(0, 0, 1, 0, -1), Dues.BEYOND);
        due("move(0, -1, 1, 0, 1)", x.move(0, -1, 1, 0, 1), Dues.BEYOND);
        due("move(0, 0, 1, -1, 1)", x.move(0, 0, 1, -1, 1), Dues.BEYOND);
        due("move(0, 0, 1, 0, 3): too many there", x.move(0, 0, 1, 0, 3), Dues.BEYOND);
        due("move(1, 0, 0, 0, 3): too many here", x.move(1, 0, 0, 0, 3), Dues.BEYOND);
        due("move(0, 2, 1, 0, 2)", x.move(0, 2, 1, 0, 2), Dues.BEYOND);
        due("move(0, 0, 1, 1, 2)", x.move(0, 0, 1, 1, 2), Dues.BEYOND);
        due("move(0, 4, 1, 0, 0): behind the end", x.move(0, 4, 1, 0, 0), Dues.BEYOND);
        due("move(0, 0, 1, 3, 0): behind the end", x.move(0, 0, 1, 3, 0), Dues.BEYOND);
        for (int wild : Dues.WILD) {
            due("move(" + wild + ", 0, 0, 0, 1)", x.move(wild, 0, 0, 0, 1), Dues.BEYOND);
            due("move(0, " + wild + ", 1, 0, 1)", x.move(0, wild, 1, 0, 1), Dues.BEYOND);
            due("move(0, 0, " + wild + ", 0, 1)", x.move(0, 0, wild, 0, 1), Dues.BEYOND);
            due("move(0, 0, 1, " + wild + ", 1)", x.move(0, 0, 1, wild, 1), Dues.BEYOND);
            due("move(0, 0, 1, 0, " + wild + ")", x.move(0, 0, 1, 0, wild), Dues.BEYOND);
            due("move(0, " + wild + ", 1, 0, MAX)", x.move(0, wild, 1, 0, Integer.MAX_VALUE), Dues.BEYOND);
        }
        due("move(0, MAX, 1, MAX, MAX)", x.move(0, Integer.MAX_VALUE, 1, Integer.MAX_VALUE, Integer.MAX_VALUE), Dues.BEYOND);
        shows(x, 0, 1, 2, 3);
        shows(x, 1, 4, 5);
        x.sheet(3, 32, 0);
        x.sheet(2, 32, 0);
        due("move(3, 0, 2, 0, 0), both empty", x.move(3, 0, 2, 0, 0), 0);
        due("told(5)", x.told(5), 3);
    }

    private static void offsets() {
        HandTown x = town();
        fill(x, 0, 32, 5, 1440, 6);
        due("offsets(0), 1440", x.offsets(0), 1);
        due("hand 0", x.handIs(0, 1), 5);
        due("hand 1 stays", x.handIs(1, 1), 1);
        due("hand 2 stays", x.handIs(2, 1), 1);
        fill(x, 0, 32, 1439, 0, -1);
        due("offsets(0), -1", x.offsets(0), 2);
        due("hand 0", x.handIs(0, 1), 1439);
        due("hand 1", x.handIs(1, 1), 0);
        due("hand 2 stays", x.handIs(2, 1), 1);
        fill(x, 0, 32, 2, 3, 4, 5, 6);
        due("offsets(0), five numbers", x.offsets(0), 4);
        due("hand 3", x.handIs(3, 1), 5);
        due("turns stay", x.handIs(3, 0), 1440);
        due("offsets(0) without hands", sheetOf(new HandTown(), 3).offsets(0), 0);
        due("offsets(1)", x.offsets(1), Dues.NONE);
        due("offsets(4)", x.offsets(4), Dues.BEYOND);
        due("offsets(-1)", x.offsets(-1), Dues.BEYOND);
        for (int wild : Dues.WILD) {
            due("offsets(" + wild + ")", x.offsets(wild), Dues.BEYOND);
        }
        x.hand(7, 0);
        due("told(1) for 5 and 8 calls", x.told(1), 2 + Dues.WILD.length);
    }

    private static HandTown sheetOf(HandTown x, int n) {
        x.sheet(0, 8, n);
        return x;
    }

    /** Numbers of 8, 16, 32 bits are Java's, so that the highest bit makes them less than 0. */
    private static void offsetsOfBits() {
        HandTown x = town();
        fill(x, 0, 8, 1, 128, 2);
        due("offsets(0): 128 as 8 bits is -128", x.offsets(0), 1);
        fill(x, 0, 16, 1, 32768 + 5, 2);
        due("offsets(0): 32773 as 16 bits", x.offsets(0), 1);
    }

    private static void judge() {
        HandTown x = town();
        for (int home = 0; home < 3; home++) {
            x.home(home, 0);
        }
        x.person(0, 2);
        x.person(0, 0);
        x.person(0, 1);
        fill(x, 0, 8, 2, 0, 1);
        due("judge(0): all", x.judge(0), 3);
        fill(x, 0, 16, 2, 1, 1);
        due("judge(0): up to the second", x.judge(0), 1);
        fill(x, 0, 32, 1, 0, 1);
        due("judge(0): from the first on", x.judge(0), 0);
        fill(x, 0, 32, 2, 0, 1, 0, 0);
        due("judge(0): more numbers than people", x.judge(0), 3);
        fill(x, 0, 32, 2, 0);
        due("judge(0): less numbers than people", x.judge(0), 2);
        fill(x, 0, 32, 2, 0, 257);
        due("judge(0): 257 is no 1", x.judge(0), 2);
        fill(x, 0, 8, 2, 0, 257);
        due("judge(0): 257 as 8 bits is 1", x.judge(0), 3);
        due("judge(1)", x.judge(1), Dues.NONE);
        due("judge(4)", x.judge(4), Dues.BEYOND);
        due("judge(-1)", x.judge(-1), Dues.BEYOND);
        for (int wild : Dues.WILD) {
            due("judge(" + wild + ")", x.judge(wild), Dues.BEYOND);
        }
        due("nobody moved", x.personIs(0, 2), 2);
    }
}
