/** Promises 35 to 38: images, numbers that wait. What an image keeps, and what not, is with ImageEdges. */
public final class ImagesTest {
    private static final Dues DUES = new Dues("ImagesTest");

    public static void main(String[] args) {
        image();
        restoresWhatWasMissing();
        tell();
        check();
        checkWrong();
        DUES.end();
    }

    private static void due(String call, long got, long want) {
        DUES.due(call, got, want);
    }

    private static void image() {
        HandTown x = new HandTown();
        due("restore() without", x.restore(), Dues.NONE);
        x.minutes(5);
        due("image()", x.image(), 1);
        x.minutes(5);
        due("restore()", x.restore(), 5);
        due("count(3)", x.count(3), 5);
        x.minutes(7);
        due("restore() again: it stays", x.restore(), 5);
        x.minutes(2);
        due("image() in its place", x.image(), 2);
        x.minutes(2);
        due("restore()", x.restore(), 7);
        due("how often is not restored", x.image(), 3);
        due("told(2)", x.told(2), 1);
    }

    private static void restoresWhatWasMissing() {
        HandTown x = new HandTown();
        x.image();
        x.hand(60, 0);
        x.home(0, 0);
        x.person(0, 0);
        Dues.read(x, 0, "m");
        x.minutes(1);
        due("restore()", x.restore(), 0);
        due("handIs(0, 0)", x.handIs(0, 0), Dues.BEYOND);
        due("homeIs(0, 0)", x.homeIs(0, 0), Dues.BEYOND);
        due("personIs(0, 0)", x.personIs(0, 0), Dues.BEYOND);
        due("untell(0)", x.untell(0), 0);
        due("hand(7, 7)", x.hand(7, 7), 0);
        due("its turn", x.handIs(0, 0), 7);
    }

    private static void tell() {
        HandTown x = new HandTown();
        for (int i = 1; i <= 24; i++) {
            due("tell, " + i, x.tell(Integer.MIN_VALUE), i);
        }
        due("tell, a 25th", x.tell(0), Dues.FULL);
        due("count(5)", x.count(5), 24);
        due("check()", x.check(), 1);
        due("none waits then", x.count(5), 0);
        due("tell", x.tell(0), 1);
    }

    private static void check() {
        HandTown x = new HandTown();
        x.hand(60, 5);
        x.hand(30, 6);
        x.hand(60, 7);
        due("check() of none", x.check(), 0);
        x.tell(5);
        due("check() of 5", x.check(), 0);
        due("count(5)", x.count(5), 0);
        x.tell(5);
        x.tell(12);
        x.tell(7);
        due("check() of 5, 12, 7", x.check(), 0);
        x.tell(5);
        x.tell(12);
        x.tell(7);
        x.minutes(1);
        due("check() a minute late", x.check(), 1);
        x.tell(6);
        x.tell(14);
        x.tell(8);
        due("check() of the marks now", x.check(), 0);
    }

    private static void checkWrong() {
        HandTown x = new HandTown();
        x.hand(60, 5);
        x.hand(30, 6);
        x.tell(5);
        x.tell(13);
        x.tell(0);
        due("check() of 5, 13, 0", x.check(), 2);
        due("none waits then", x.count(5), 0);
        x.tell(5);
        x.tell(12);
        x.tell(0);
        due("check(): there is no third hand", x.check(), 3);
        x.tell(4);
        x.tell(12);
        due("check(): the first one", x.check(), 1);
        x.tell(65);
        due("check(): 65 is no mark", x.check(), 1);
        for (int i = 0; i < 24; i++) {
            x.tell(i == 0 ? 5 : 12);
        }
        due("check() of 24", x.check(), 3);
    }
}
