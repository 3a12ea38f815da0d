/** Promises 28 and 29: voices and the trace of their bodies. */
public final class VoicesTest {
    private static final Dues DUES = new Dues("VoicesTest");

    public static void main(String[] args) {
        eachKind();
        otherNumbers();
        parted();
        traceStays();
        wrongCalls();
        likeErrors();
        DUES.end();
    }

    private static void due(String call, long got, long want) {
        DUES.due(call, got, want);
    }

    /** One of each kind but the winder, each with its number: 0 m 3, 1 m 5, 2 m 2, 3 m 7, 4 (thief) m 9, 5 m 6. */
    private static HandTown town() {
        HandTown x = new HandTown();
        x.hand(60, 0);
        x.home(0, 0);
        for (int km : new int[] {3, 15, 22, 37, 49, 56}) {
            x.person(km, 0);
        }
        return x;
    }

    private static void speaks(HandTown x, int person, int voice, int arg, int want, int... trace) {
        String call = "voice(" + person + ", " + voice + ", " + arg + ")";
        due(call, x.voice(person, voice, arg), want);
        due(call + ": count(6)", x.count(6), trace.length);
        for (int i = 0; i < trace.length; i++) {
            due(call + ": body(" + i + ")", x.body(i), trace[i]);
        }
        due(call + ": body behind the last", x.body(trace.length), Dues.NONE);
        due(call + ": body(-1)", x.body(-1), Dues.NONE);
    }

    private static void eachKind() {
        HandTown x = town();
        speaks(x, 0, 0, 7, 7, 10);
        speaks(x, 0, 1, 7, 14, 11, 10);
        speaks(x, 0, 2, 7, 11, 12, 11, 10);
        speaks(x, 0, 3, 7, 2, 13);
        speaks(x, 1, 0, 7, 4, 20, 10);
        speaks(x, 1, 1, 7, 8, 11, 20, 10);
        speaks(x, 1, 2, 7, 3, 12, 11, 20, 10);
        speaks(x, 1, 3, 7, -3, 21, 13, 11, 20, 10);
        speaks(x, 2, 0, 7, 9, 10);
        speaks(x, 2, 1, 7, -18, 30, 11, 10);
        speaks(x, 2, 2, 7, -20, 12, 30, 11, 10);
        speaks(x, 3, 0, 7, 10, 10);
        speaks(x, 3, 1, 7, 20, 11, 10);
        speaks(x, 3, 2, 7, 5, 40, 12, 11, 10);
        speaks(x, 3, 3, 7, 1, 13);
        speaks(x, 4, 0, 7, 21, 50, 20, 10);
        speaks(x, 4, 1, 7, 42, 11, 50, 20, 10);
        speaks(x, 4, 2, 7, 37, 51, 12, 11, 50, 20, 10);
        speaks(x, 4, 3, 7, 7, 21, 13, 11, 50, 20, 10);
        speaks(x, 5, 0, 7, 12, 10);
        speaks(x, 5, 1, 7, -26, 60, 30, 11, 10);
        speaks(x, 5, 2, 7, -32, 12, 60, 30, 11, 10);
        speaks(x, 5, 3, 7, 7, 13);
        x.become(5, 66);
        speaks(x, 5, 0, 7, 9, 70);
        speaks(x, 5, 1, 7, 24, 71, 11, 70);
        speaks(x, 5, 2, 7, 18, 12, 71, 11, 70);
        speaks(x, 5, 3, 7, 7, 13);
    }

    private static void otherNumbers() {
        int min = Integer.MIN_VALUE;
        int max = Integer.MAX_VALUE;
        HandTown x = town();
        speaks(x, 1, 0, max, min - 4, 20, 10);
        speaks(x, 0, 1, 1 << 30, min, 11, 10);
        speaks(x, 0, 2, 1 << 31, -3, 12, 11, 10);
        speaks(x, 3, 2, -7, -7, 40, 12, 11, 10);
        speaks(x, 3, 2, -9, -9, 40, 12, 11, 10);
        speaks(x, 0, 3, -7, -2, 13);
        speaks(x, 0, 3, min, min / 3, 13);
        speaks(x, 5, 1, max, -10 - min - min, 60, 30, 11, 10);
        speaks(x, 4, 2, -20, (-60 * 2 - 9) ^ 4, 51, 12, 11, 50, 20, 10);
        x.become(4, 3);
        speaks(x, 4, 3, min, min, 13);
        speaks(x, 4, 3, 7, -7, 13);
        x.become(4, 1);
        speaks(x, 4, 3, 8, -2, 13);
    }

    private static void parted() {
        HandTown x = town();
        speaks(x, 2, 3, 7, Dues.PARTED, 13);
        due("told(6)", x.told(6), 1);
        x.become(1, 11);
        speaks(x, 1, 3, 7, Dues.PARTED, 21, 13);
        x.become(4, 44);
        speaks(x, 4, 3, 0, Dues.PARTED, 21, 13);
        x.become(3, 33);
        speaks(x, 3, 3, 0, Dues.PARTED, 13);
        due("told(6)", x.told(6), 4);
        speaks(x, 4, 0, 7, 21, 50, 20, 10);
        speaks(x, 0, 3, 7, 2, 13);
        x.become(0, 0);
        speaks(x, 0, 3, 7, Dues.PARTED, 13);
        speaks(x, 0, 2, 7, 14, 12, 11, 10);
    }

    private static void traceStays() {
        HandTown x = town();
        x.voice(4, 2, 7);
        x.image();
        due("voice(6, 0, 0)", x.voice(6, 0, 0), Dues.BEYOND);
        due("voice(0, 4, 0)", x.voice(0, 4, 0), Dues.BEYOND);
        due("count(6) behind BEYOND", x.count(6), 6);
        due("body(0) behind BEYOND", x.body(0), 51);
        due("body(5) behind BEYOND", x.body(5), 10);
        x.voice(5, 1, 7);
        x.restore();
        due("count(6) behind restore()", x.count(6), 4);
        due("body(0) behind restore()", x.body(0), 60);
        due("told(2)", x.told(2), 0);
        due("body(4)", x.body(4), Dues.NONE);
        due("told(2)", x.told(2), 1);
    }

    private static void wrongCalls() {
        HandTown x = town();
        for (int wild : Dues.WILD) {
            due("voice(" + wild + ", 0, 0)", x.voice(wild, 0, 0), Dues.BEYOND);
            due("voice(0, " + wild + ", 0)", x.voice(0, wild, 0), Dues.BEYOND);
            due("body(" + wild + ")", x.body(wild), Dues.NONE);
        }
        due("voice(0, -1, 0)", x.voice(0, -1, 0), Dues.BEYOND);
        due("voice(0, 4, 0)", x.voice(0, 4, 0), Dues.BEYOND);
        due("voice(6, 0, 0)", x.voice(6, 0, 0), Dues.BEYOND);
        due("count(6)", x.count(6), 0);
        due("body(0)", x.body(0), Dues.NONE);
    }

    /** A voice may say any number: it is no ERROR for being alike to one. */
    private static void likeErrors() {
        HandTown x = town();
        due("voice(0, 0, LOW - 1)", x.voice(0, 0, Dues.BEYOND), Dues.BEYOND);
        due("voice(0, 0, LOW - 6)", x.voice(0, 0, Dues.PARTED), Dues.PARTED);
        for (int k = 1; k <= 6; k++) {
            due("told(" + k + ")", x.told(k), 0);
        }
    }
}
