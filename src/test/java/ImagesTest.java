/** Promises 35 to 38: images, numbers that wait. */
public final class ImagesTest {
    private static final Dues DUES = new Dues("ImagesTest");

    public static void main(String[] args) {
        image();
        restoresAll();
        restoresWhatWasMissing();
        leavesTheRest();
        tell();
        check();
        checkWrong();
        DUES.end();
    }

    private static void due(String call, long got, long want) {
        DUES.due(call, got, want);
    }

    private static void image() {
        HandTown x = new HandTown();
        due("restore() without", x.restore(), Dues.NONE);
        x.minutes(5);
        due("image()", x.image(), 1);
        x.minutes(5);
        due("restore()", x.restore(), 5);
        due("count(3)", x.count(3), 5);
        x.minutes(7);
        due("restore() again: it stays", x.restore(), 5);
        x.minutes(2);
        due("image() in its place", x.image(), 2);
        x.minutes(2);
        due("restore()", x.restore(), 7);
        due("how often is not restored", x.image(), 3);
        due("told(2)", x.told(2), 1);
    }

    private static HandTown town() {
        HandTown x = new HandTown();
        x.hand(60, 5);
        x.hand(30, 6);
        x.home(0, 1);
        x.home(1, 2);
        x.person(60, 0);
        x.person(17, 1);
        x.minutes(3);
        Dues.read(x, 0, "m*2");
        Dues.read(x, 1, "r*2");
        Dues.feed(x, "1+");
        x.tell(8);
        x.tell(19);
        x.seed(99);
        return x;
    }

    private static void changeAll(HandTown x) {
        x.frost(0, 1);
        x.hand(7, 0);
        x.home(2, 3);
        x.become(1, 40);
        x.jump(0, 1);
        x.person(0, 2);
        x.minutes(9);
        x.text(0);
        Dues.read(x, 0, "m*3");
        x.untell(1);
        Dues.feed(x, "abcdef");
        x.check();
        x.tell(1);
        x.tell(2);
        x.tell(3);
        x.seed(5);
    }

    private static void restoresAll() {
        HandTown x = town();
        x.image();
        changeAll(x);
        due("restore()", x.restore(), 3);
        int[] counts = {2, 2, 2, 3, 2, 2, 0, 99};
        for (int what = 0; what < counts.length; what++) {
            due("count(" + what + ")", x.count(what), counts[what]);
        }
        due("handIs(0, 1)", x.handIs(0, 1), 5);
        due("handIs(0, 0)", x.handIs(0, 0), 60);
        due("handIs(1, 1)", x.handIs(1, 1), 6);
        due("homeIs(1, 0)", x.homeIs(1, 0), 1);
        due("homeIs(1, 1)", x.homeIs(1, 1), 2);
        due("homeIs(0, 4)", x.homeIs(0, 4), 1);
        due("personIs(1, 0)", x.personIs(1, 0), 1);
        due("personIs(1, 1)", x.personIs(1, 1), 7);
        due("personIs(0, 2)", x.personIs(0, 2), 0);
        due("law(0, 4, 0, 0)", x.law(0, 4, 0, 0), 8);
        due("law(1, 4, 0, 0)", x.law(1, 4, 0, 0), 8);
        Dues.feed(x, "r");
        due("1+r from the tape", x.text(1), 1);
        due("law(1, 4, 0, 0)", x.law(1, 4, 0, 0), 5);
        due("check(): 8, but not 19", x.check(), 2);
        changeAll(x);
        due("restore() again", x.restore(), 3);
        due("handIs(0, 1)", x.handIs(0, 1), 5);
        due("law(1, 4, 0, 0)", x.law(1, 4, 0, 0), 8);
        due("check()", x.check(), 2);
    }

    private static void restoresWhatWasMissing() {
        HandTown x = new HandTown();
        x.image();
        x.hand(60, 0);
        x.home(0, 0);
        x.person(0, 0);
        Dues.read(x, 0, "m");
        x.minutes(1);
        due("restore()", x.restore(), 0);
        due("handIs(0, 0)", x.handIs(0, 0), Dues.BEYOND);
        due("homeIs(0, 0)", x.homeIs(0, 0), Dues.BEYOND);
        due("personIs(0, 0)", x.personIs(0, 0), Dues.BEYOND);
        due("untell(0)", x.untell(0), 0);
        due("hand(7, 7)", x.hand(7, 7), 0);
        due("its turn", x.handIs(0, 0), 7);
    }

    private static void leavesTheRest() {
        HandTown x = town();
        x.sheet(0, 8, 2);
        x.put(0, 0, 1);
        x.voice(0, 0, 5);
        x.image();
        x.put(0, 0, 0);
        x.put(0, 1, 1);
        x.sheet(1, 8, 1);
        x.voice(0, 1, 5);
        x.hand(0, 0);
        x.restore();
        due("the sheet stays as it is", x.judge(0), 2);
        due("the other sheet, too", x.judge(1), 1);
        due("THE TRACE stays as it is", x.count(6), 3);
        due("what told() tells stays as it is", x.told(1), 1);
    }

    private static void tell() {
        HandTown x = new HandTown();
        for (int i = 1; i <= 24; i++) {
            due("tell, " + i, x.tell(Integer.MIN_VALUE), i);
        }
        due("tell, a 25th", x.tell(0), Dues.FULL);
        due("count(5)", x.count(5), 24);
        due("check()", x.check(), 1);
        due("none waits then", x.count(5), 0);
        due("tell", x.tell(0), 1);
    }

    private static void check() {
        HandTown x = new HandTown();
        x.hand(60, 5);
        x.hand(30, 6);
        x.hand(60, 7);
        due("check() of none", x.check(), 0);
        x.tell(5);
        due("check() of 5", x.check(), 0);
        due("count(5)", x.count(5), 0);
        x.tell(5);
        x.tell(12);
        x.tell(7);
        due("check() of 5, 12, 7", x.check(), 0);
        x.tell(5);
        x.tell(12);
        x.tell(7);
        x.minutes(1);
        due("check() a minute late", x.check(), 1);
        x.tell(6);
        x.tell(14);
        x.tell(8);
        due("check() of the marks now", x.check(), 0);
    }

    private static void checkWrong() {
        HandTown x = new HandTown();
        x.hand(60, 5);
        x.hand(30, 6);
        x.tell(5);
        x.tell(13);
        x.tell(0);
        due("check() of 5, 13, 0", x.check(), 2);
        due("none waits then", x.count(5), 0);
        x.tell(5);
        x.tell(12);
        x.tell(0);
        due("check(): there is no third hand", x.check(), 3);
        x.tell(4);
        x.tell(12);
        due("check(): the first one", x.check(), 1);
        x.tell(65);
        due("check(): 65 is no mark", x.check(), 1);
        for (int i = 0; i < 24; i++) {
            x.tell(i == 0 ? 5 : 12);
        }
        due("check() of 24", x.check(), 3);
    }
}
