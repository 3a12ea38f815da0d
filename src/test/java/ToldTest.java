/** Promises 39 and 40: counts, and how often each ERROR was told. */
public final class ToldTest {
    private static final Dues DUES = new Dues("ToldTest");

    public static void main(String[] args) {
        count();
        countWrong();
        told();
        eachError();
        manyErrors();
        DUES.end();
    }

    private static void due(String call, long got, long want) {
        DUES.due(call, got, want);
    }

    private static void count() {
        HandTown x = new HandTown();
        x.hand(5, 0);
        for (int i = 0; i < 2; i++) {
            x.home(0, 0);
        }
        for (int i = 0; i < 3; i++) {
            x.person(0, 0);
        }
        x.minutes(4);
        x.feed(0L, 5);
        for (int i = 0; i < 6; i++) {
            x.tell(0);
        }
        x.become(2, 45);
        x.voice(2, 2, 0);
        x.seed(Dues.NONE);
        int[] counts = {1, 2, 3, 4, 5, 6, 6, Dues.NONE};
        for (int what = 0; what < counts.length; what++) {
            due("count(" + what + ")", x.count(what), counts[what]);
        }
        due("z is no ERROR", x.told(2), 0);
    }

    private static void countWrong() {
        HandTown x = new HandTown();
        due("count(-1)", x.count(-1), Dues.BEYOND);
        due("count(8)", x.count(8), Dues.BEYOND);
        for (int wild : Dues.WILD) {
            due("count(" + wild + ")", x.count(wild), Dues.BEYOND);
        }
        due("told(1)", x.told(1), 2 + Dues.WILD.length);
    }

    private static void told() {
        HandTown x = new HandTown();
        due("told(0)", x.told(0), Dues.BEYOND);
        due("told(7)", x.told(7), Dues.BEYOND);
        due("told(-1)", x.told(-1), Dues.BEYOND);
        due("told(1): told() counts, too", x.told(1), 3);
        due("told(1) does not count itself", x.told(1), 3);
        for (int wild : Dues.WILD) {
            due("told(" + wild + ")", x.told(wild), Dues.BEYOND);
        }
        due("told(1)", x.told(1), 3 + Dues.WILD.length);
        due("told(2)", x.told(2), 0);
    }

    private static void eachError() {
        HandTown x = new HandTown();
        x.council();
        x.council();
        due("told(3)", x.told(3), 2);
        x.restore();
        due("told(2)", x.told(2), 1);
        for (int i = 0; i < 5; i++) {
            x.hand(60, 0);
        }
        due("told(4)", x.told(4), 1);
        x.home(0, 0);
        x.person(0, 0);
        x.as(0, 1);
        x.as(0, 2);
        x.as(0, 3);
        due("told(5)", x.told(5), 3);
        x.voice(0, 3, 1);
        due("told(6)", x.told(6), 1);
        x.text(0);
        due("a fault is no ERROR", x.told(1), 0);
        x.check();
        x.soonest(0, 1);
        due("told(1)", x.told(1), 1);
        int[] all = {0, 1, 1, 2, 1, 3, 1};
        for (int k = 1; k <= 6; k++) {
            due("told(" + k + ")", x.told(k), all[k]);
        }
    }

    private static void manyErrors() {
        HandTown x = new HandTown();
        for (int i = 0; i < 500; i++) {
            x.meet(0, 1);
        }
        due("told(1)", x.told(1), 500);
    }
}
