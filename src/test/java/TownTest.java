/** Promises 1 to 6: a new object, hands and houses. */
public final class TownTest {
    private static final Dues DUES = new Dues("TownTest");

    public static void main(String[] args) {
        newObject();
        hand();
        handIs();
        handIsWrong();
        frost();
        home();
        homeIs();
        homeIsWorth();
        DUES.end();
    }

    private static void due(String call, long got, long want) {
        DUES.due(call, got, want);
    }

    private static void newObject() {
        HandTown x = new HandTown();
        for (int what = 0; what <= 6; what++) {
            due("new: count(" + what + ")", x.count(what), 0);
        }
        due("new: count(7)", x.count(7), 1);
        for (int k = 1; k <= 6; k++) {
            due("new: told(" + k + ")", x.told(k), 0);
        }
        due("new: untell(0)", x.untell(0), 0);
        due("new: untell(1)", x.untell(1), 0);
        due("new: check()", x.check(), 0);
        for (int sheet = 0; sheet <= 3; sheet++) {
            due("new: judge(" + sheet + ")", x.judge(sheet), Dues.NONE);
        }
        due("new: body(0)", x.body(0), Dues.NONE);
        due("new: restore()", x.restore(), Dues.NONE);
        due("new: council()", x.council(), Dues.STATE);
        due("new: handIs(0, 0)", x.handIs(0, 0), Dues.BEYOND);
        due("new: homeIs(0, 0)", x.homeIs(0, 0), Dues.BEYOND);
        due("new: personIs(0, 0)", x.personIs(0, 0), Dues.BEYOND);
        due("new: image()", x.image(), 1);
        due("another object knows nothing of it", new HandTown().told(1), 0);
    }

    private static void hand() {
        HandTown x = new HandTown();
        for (int wild : Dues.WILD) {
            if (wild != 1440) {
                due("hand(" + wild + ", 0)", x.hand(wild, 0), Dues.BEYOND);
            }
            due("hand(5, " + wild + ")", x.hand(5, wild), Dues.BEYOND);
        }
        due("hand(0, 0)", x.hand(0, 0), Dues.BEYOND);
        due("hand(1441, 0)", x.hand(1441, 0), Dues.BEYOND);
        due("nothing came of it", x.count(0), 0);
        due("hand(1, 0)", x.hand(1, 0), 0);
        due("hand(1440, 1439)", x.hand(1440, 1439), 1);
        due("hand(7, 1000)", x.hand(7, 1000), 2);
        due("hand(60, 30)", x.hand(60, 30), 3);
        due("hand(60, 30), a fifth", x.hand(60, 30), Dues.FULL);
        due("hand(0, 30), a fifth: BEYOND is asked first", x.hand(0, 30), Dues.BEYOND);
        due("count(0)", x.count(0), 4);
        due("offset as told, though above the turn", x.handIs(2, 1), 1000);
    }

    private static void handIs() {
        HandTown x = new HandTown();
        x.hand(7, 3);
        x.hand(10, 25);
        due("handIs(0, 0)", x.handIs(0, 0), 7);
        due("handIs(0, 1)", x.handIs(0, 1), 3);
        due("handIs(0, 2): 180 by 7, cut", x.handIs(0, 2), 25);
        due("handIs(0, 3)", x.handIs(0, 3), 0);
        due("handIs(1, 0)", x.handIs(1, 0), 10);
        due("handIs(1, 1)", x.handIs(1, 1), 25);
        due("handIs(1, 2): rest 5 of 10", x.handIs(1, 2), 30);
        x.home(1, 0);
        x.home(0, 9);
        x.home(1, 3);
        due("handIs(0, 3) with a house", x.handIs(0, 3), 2);
        due("handIs(1, 3) with two", x.handIs(1, 3), 5);
        x.minutes(4);
        due("handIs(0, 2) a turn on", x.handIs(0, 2), 0);
        due("handIs(1, 2) behind 4", x.handIs(1, 2), 54);
        due("the offset stays", x.handIs(1, 1), 25);
    }

    private static void handIsWrong() {
        HandTown x = new HandTown();
        x.hand(7, 3);
        due("handIs(0, -1)", x.handIs(0, -1), Dues.BEYOND);
        due("handIs(0, 4)", x.handIs(0, 4), Dues.BEYOND);
        due("handIs(1, 0)", x.handIs(1, 0), Dues.BEYOND);
        due("handIs(-1, 0)", x.handIs(-1, 0), Dues.BEYOND);
        for (int wild : Dues.WILD) {
            due("handIs(" + wild + ", 0)", x.handIs(wild, 0), Dues.BEYOND);
            due("handIs(0, " + wild + ")", x.handIs(0, wild), Dues.BEYOND);
        }
    }

    private static void frost() {
        HandTown x = new HandTown();
        x.hand(12, 0);
        x.hand(7, 1000);
        x.hand(1440, 1439);
        x.hand(1, 5);
        due("frost(0, 5)", x.frost(0, 5), 7);
        due("its offset", x.handIs(0, 1), 7);
        due("its turn stays", x.handIs(0, 0), 12);
        due("its mark", x.handIs(0, 2), 35);
        due("frost(0, 7)", x.frost(0, 7), 0);
        due("frost(0, 12): a turn", x.frost(0, 12), 0);
        due("frost(0, 99)", x.frost(0, 99), 9);
        due("frost(1, 1): 999 less 142 turns", x.frost(1, 1), 5);
        due("frost(2, 99)", x.frost(2, 99), 1340);
        due("frost(3, 3): a turn of 1", x.frost(3, 3), 0);
        due("frost(0, 0)", x.frost(0, 0), Dues.BEYOND);
        due("frost(0, 100)", x.frost(0, 100), Dues.BEYOND);
        due("frost(4, 1)", x.frost(4, 1), Dues.BEYOND);
        for (int wild : Dues.WILD) {
            due("frost(" + wild + ", 1)", x.frost(wild, 1), Dues.BEYOND);
            due("frost(0, " + wild + ")", x.frost(0, wild), Dues.BEYOND);
        }
        due("its offset stays", x.handIs(0, 1), 9);
        due("frost does not turn back MINUTE", x.count(3), 0);
    }

    private static void home() {
        HandTown x = new HandTown();
        due("home(0, 0) without a hand", x.home(0, 0), Dues.BEYOND);
        x.hand(12, 0);
        due("home(0, -1)", x.home(0, -1), Dues.BEYOND);
        due("home(0, 10)", x.home(0, 10), Dues.BEYOND);
        for (int wild : Dues.WILD) {
            due("home(" + wild + ", 0)", x.home(wild, 0), Dues.BEYOND);
            due("home(0, " + wild + ")", x.home(0, wild), Dues.BEYOND);
        }
        due("home(1, 0)", x.home(1, 0), Dues.BEYOND);
        due("count(1)", x.count(1), 0);
        for (int i = 0; i < 8; i++) {
            due("home " + i, x.home(0, i + 2 > 9 ? 0 : i + 2), i);
        }
        due("home(0, 9), a ninth", x.home(0, 9), Dues.FULL);
        due("home(0, 10), a ninth: BEYOND is asked first", x.home(0, 10), Dues.BEYOND);
        due("count(1)", x.count(1), 8);
        due("handIs(0, 3), all eight", x.handIs(0, 3), 255);
    }

    private static void homeIs() {
        HandTown x = new HandTown();
        x.hand(12, 0);
        x.hand(60, 17);
        x.home(1, 9);
        x.home(0, 0);
        due("homeIs(0, 0)", x.homeIs(0, 0), 1);
        due("homeIs(0, 1)", x.homeIs(0, 1), 9);
        due("homeIs(0, 2)", x.homeIs(0, 2), 17);
        due("homeIs(0, 4)", x.homeIs(0, 4), 0);
        due("homeIs(1, 0)", x.homeIs(1, 0), 0);
        due("homeIs(1, 1)", x.homeIs(1, 1), 0);
        x.person(0, 1);
        x.person(10, 0);
        x.person(20, 1);
        due("homeIs(0, 4) with one", x.homeIs(0, 4), 2);
        due("homeIs(1, 4) with two", x.homeIs(1, 4), 5);
        x.minutes(1);
        due("homeIs(1, 2) behind 1", x.homeIs(1, 2), 5);
        due("homeIs(0, -1)", x.homeIs(0, -1), Dues.BEYOND);
        due("homeIs(0, 5)", x.homeIs(0, 5), Dues.BEYOND);
        due("homeIs(2, 0)", x.homeIs(2, 0), Dues.BEYOND);
        for (int wild : Dues.WILD) {
            due("homeIs(" + wild + ", 0)", x.homeIs(wild, 0), Dues.BEYOND);
            due("homeIs(0, " + wild + ")", x.homeIs(0, wild), Dues.BEYOND);
        }
    }

    private static void homeIsWorth() {
        HandTown x = new HandTown();
        x.hand(12, 0);
        x.hand(60, 17);
        x.home(1, 9);
        x.home(0, 0);
        x.home(0, 3);
        due("worth without a text: 90 less 17", x.homeIs(0, 3), 73);
        x.minutes(6);
        due("worth below 0", x.homeIs(1, 3), -30);
        Dues.read(x, 1, "r*100+k+n*10");
        due("worth by text: 300 and 30 and 20", x.homeIs(2, 3), 350);
        due("worth by text: 0 and 30 and 10", x.homeIs(1, 3), 40);
        Dues.read(x, 1, "r*200");
        due("worth held within 999", x.homeIs(0, 3), 999);
        Dues.read(x, 1, "0-r*200");
        due("worth held within -999", x.homeIs(0, 3), -999);
    }
}
