/** Sentences of promises 35 to 40: images, numbers that wait, what is told. */
final class ImageEdges {
    private static final int MIN = Integer.MIN_VALUE;
    private static final int MAX = Integer.MAX_VALUE;

    private final Edges e;

    ImageEdges(Edges e) {
        this.e = e;
    }

    void run() {
        image();
        imageOfAll();
        restore();
        restoreNone();
        tell();
        tellFull();
        check();
        count();
        countBeyond();
        told();
        toldByEach();
    }

    private void image() {
        e.promise(35, "All (but SHEETS, THE TRACE, what told() tells, and how often this was done) is kept as an IMAGE, "
            + "in place of one ahead: how often that was done");
        HandTown x = new HandTown();
        e.due("of a new object", x.image(), 1);
        x.minutes(3);
        e.due("in its place", x.image(), 2);
        x.minutes(4);
        e.due("the latest", x.restore(), 3);
        e.due("how often is not kept", x.image(), 3);
        for (int i = 4; i <= 100; i++) {
            e.due("again", x.image(), i);
        }
        x.restore();
        e.due("how often is not restored", x.image(), 101);
        imageLeavesOut();
    }

    private void imageLeavesOut() {
        HandTown x = Towns.fill(town(), 0, 8, 0, 1);
        x.voice(0, 0, 5);
        x.image();
        x.put(0, 1, 0);
        x.sheet(1, 16, 1);
        x.voice(0, 1, 5);
        x.hand(0, 0);
        x.restore();
        e.due("SHEET 0 as it was ahead of restore()", x.judge(0), 1);
        e.due("SHEET 1, too", x.judge(1), 1);
        e.due("THE TRACE, too", x.count(6), 3);
        e.due("its first BODY", x.body(0), 71);
        e.due("told(1), too", x.told(1), 1);
    }

    private static HandTown town() {
        HandTown x = Towns.homes(Towns.hands(60, 5, 30, 6), 0, 1, 1, 2);
        x.person(60, 0);
        x.person(17, 1);
        return x;
    }

    private static HandTown full() {
        HandTown x = town();
        x.minutes(3);
        Dues.read(x, 0, "m*2");
        Dues.read(x, 1, "r*2");
        Dues.feed(x, "1+");
        x.tell(8);
        x.tell(19);
        x.seed(99);
        return x;
    }

    private static void changeAll(HandTown x) {
        x.frost(0, 1);
        x.hand(7, 0);
        x.home(2, 3);
        x.become(1, 40);
        x.jump(0, 1);
        x.person(0, 2);
        x.minutes(9);
        x.text(0);
        Dues.read(x, 0, "m*3+m*0+m*0");
        x.untell(1);
        Dues.feed(x, "abcdef");
        x.check();
        x.tell(1);
        x.tell(2);
        x.tell(3);
        x.seed(5);
    }

    private void isAsKept(HandTown x) {
        int[] counts = {2, 2, 2, 3, 2, 2, 0, 99};
        for (int what = 0; what < counts.length; what++) {
            e.due("count(" + what + ")", x.count(what), counts[what]);
        }
        e.due("TURN", x.handIs(0, 0), 60);
        e.due("OFFSET", x.handIs(0, 1), 5);
        e.due("OFFSET of the last", x.handIs(1, 1), 6);
        e.due("HAND of a HOUSE", x.homeIs(1, 0), 1);
        e.due("FAR", x.homeIs(1, 1), 2);
        e.due("who is in a HOUSE", x.homeIs(0, 4), 1);
        e.due("KIND", x.personIs(1, 0), 1);
        e.due("m", x.personIs(1, 1), 7);
        e.due("HOUSE of SOMEBODY", x.personIs(0, 2), 0);
        e.due("LEAPS", x.law(0, 4, 0, 0), 8);
        e.due("WORTH", x.law(1, 4, 0, 0), 8);
        e.all("what came behind is gone", Dues.BEYOND, x.handIs(2, 0), x.homeIs(2, 0), x.personIs(2, 0));
        Dues.feed(x, "r");
        e.due("1+ on THE TAPE, and r", x.text(1), 1);
        e.due("it gives", x.law(1, 4, 0, 0), 5);
        e.due("8 waits, and 19, which is none", x.check(), 2);
    }

    private void imageOfAll() {
        e.promise(36, "All is as the IMAGE has it, which stays: MINUTE");
        HandTown x = full();
        x.image();
        changeAll(x);
        e.due("restore()", x.restore(), 3);
        isAsKept(x);
        changeAll(x);
        e.due("restore() again", x.restore(), 3);
        isAsKept(x);
        e.due("restore() at once", x.restore(), 3);
        e.due("and again", x.restore(), 3);
        isAsKept(x);
    }

    private void restore() {
        e.term("MINUTE (0 .. 9999; 0 at first)");
        HandTown x = new HandTown();
        e.due("0 at first", x.count(3), 0);
        x.image();
        Towns.pass(x, 9999);
        e.due("9999", x.count(3), 9999);
        e.due("restore() to 0", x.restore(), 0);
        Towns.pass(x, 9999);
        x.image();
        e.due("restore() to 9999", x.restore(), 9999);
        e.due("no more", x.minutes(1), Dues.STATE);
        HandTown empty = new HandTown();
        empty.image();
        Towns.homes(empty, 0, 0);
        empty.hand(60, 0);
        empty.home(0, 0);
        empty.person(0, 0);
        Dues.read(empty, 0, "5");
        Dues.read(empty, 1, "5");
        empty.tell(0);
        empty.feed(0L, 8);
        e.due("restore() to an empty town", empty.restore(), 0);
        for (int what = 0; what <= 6; what++) {
            e.due("count(" + what + ")", empty.count(what), 0);
        }
        e.all("no TEXTS", 0, empty.untell(0), empty.untell(1));
        e.due("the next HAND is the first", empty.hand(7, 3), 0);
        e.due("its TURN", empty.handIs(0, 0), 7);
    }

    private void restoreNone() {
        e.promise(36, "NONE: there is none");
        HandTown x = town();
        e.all("restore()", Dues.NONE, x.restore(), x.restore());
        e.due("all stays", x.count(0) + x.count(1) + x.count(2), 6);
        x.minutes(5);
        x.image();
        e.due("there is one", x.restore(), 5);
        e.due("told(2)", x.told(2), 2);
    }

    private void tell() {
        e.promise(37, "One more number waits: how many");
        HandTown x = new HandTown();
        int[] any = {0, -1, 60, MIN, MAX, Dues.BEYOND};
        for (int i = 1; i <= 24; i++) {
            e.due("tell no. " + i, x.tell(any[i % 6]), i);
        }
        e.due("count(5)", x.count(5), 24);
        x.check();
        e.due("the first again", x.tell(7), 1);
    }

    private void tellFull() {
        e.promise(37, "FULL: 24 wait");
        HandTown x = Towns.hands(60, 5);
        for (int i = 0; i < 24; i++) {
            x.tell(5 + i);
        }
        e.all("a 25th", Dues.FULL, x.tell(0), x.tell(MIN));
        e.due("count(5)", x.count(5), 24);
        e.due("the first is a MARK, the second of no HAND", x.check(), 2);
        e.due("there is room again", x.tell(0), 1);
    }

    private void check() {
        e.promise(38, "The numbers that wait (none do then) are MARKS of HANDS 0, 1, .. now: 0; else 1 and the place (from 0) "
            + "of the first that isn't so (or for which there is no HAND)");
        HandTown x = Towns.hands(60, 59, 30, 6, 60, 7, 7, 1000);
        tellAll(x, 59, 12, 7, 51);
        e.due("all four", x.check(), 0);
        e.due("none wait then", x.count(5), 0);
        tellAll(x, 59, 12);
        e.due("two of four", x.check(), 0);
        tellAll(x, 58, 12, 7, 51);
        e.due("the first isn't", x.check(), 1);
        e.due("none wait then", x.count(5), 0);
        tellAll(x, 59, 12, 7, 50);
        e.due("the last isn't", x.check(), 4);
        tellAll(x, 59, 11, 8, 50);
        e.due("the first that isn't", x.check(), 2);
        tellAll(x, 59, 12, 7, 51, 0);
        e.due("there is no fifth HAND", x.check(), 5);
        tellAll(x, 119);
        e.due("119 is no MARK", x.check(), 1);
        tellAll(x, -1);
        e.due("-1 is no MARK", x.check(), 1);
        tellAll(x, 59);
        x.minutes(1);
        e.due("a MINUTE late", x.check(), 1);
        tellAll(x, 0, 14, 8, 0);
        e.due("now", x.check(), 0);
        HandTown none = new HandTown();
        tellAll(none, 0);
        e.due("there are no HANDS", none.check(), 1);
        e.all("no number waits", 0, x.check(), x.check(), new HandTown().check());
    }

    private static void tellAll(HandTown x, int... numbers) {
        for (int v : numbers) {
            x.tell(v);
        }
    }

    private void count() {
        e.promise(39, "0 HANDS, 1 HOUSES, 2 how many there are who are SOMEBODY, 3 MINUTE, 4 bytes of THE TAPE, "
            + "5 numbers that wait, 6 BODIES in THE TRACE, 7 z (any number)");
        HandTown x = Towns.homes(Towns.hands(60, 0, 60, 0, 60, 0, 60, 0), 0, 0, 0, 0, 0, 0, 0, 0, 0, 0, 0, 0, 0, 0, 0, 0);
        for (int i = 0; i < 6; i++) {
            x.person(49, i);
        }
        Towns.pass(x, 9999);
        Dues.feed(x, "1".repeat(60));
        for (int i = 0; i < 24; i++) {
            x.tell(i);
        }
        x.voice(5, 3, 7);
        x.seed(Dues.BEYOND);
        int[] most = {4, 8, 6, 9999, 60, 24, 6, Dues.BEYOND};
        for (int what = 0; what < most.length; what++) {
            e.due("the most, count(" + what + ")", x.count(what), most[what]);
        }
        e.due("no ERROR", x.told(1), 0);
        HandTown one = Towns.homes(Towns.hands(60, 0), 0, 0, 0, 0);
        for (int i = 0; i < 3; i++) {
            one.person(60, 0);
        }
        one.minutes(4);
        one.feed(0L, 5);
        for (int i = 0; i < 6; i++) {
            one.tell(0);
        }
        one.voice(2, 2, 0);
        int[] each = {1, 2, 3, 4, 5, 6, 4, 1};
        for (int what = 0; what < each.length; what++) {
            e.due("each its own, count(" + what + ")", one.count(what), each[what]);
        }
    }

    private void countBeyond() {
        e.promise(39, "BEYOND");
        HandTown x = new HandTown();
        e.refuses(Dues.BEYOND, "what", x::count, -1, 8, 9);
        e.due("told(1)", x.told(1), 11);
    }

    private void told() {
        e.promise(40, "How many acts have answered an ERROR LOW - k (k 1 .. 6); BEYOND: another k (counted, too)");
        HandTown x = new HandTown();
        e.refuses(Dues.BEYOND, "k", x::told, -1, 0, 7);
        e.due("they are counted, too", x.told(1), 11);
        e.due("told() that tells is not", x.told(1), 11);
        e.all("the others", 0, x.told(2), x.told(3), x.told(4), x.told(5), x.told(6));
        for (int i = 12; i <= 400; i++) {
            x.count(8);
        }
        e.due("many", x.told(1), 400);
    }

    private void toldByEach() {
        e.term("LOW - 1 BEYOND, LOW - 2 NONE, LOW - 3 STATE, LOW - 4 FULL, LOW - 5 KIND, LOW - 6 PARTED");
        HandTown x = new HandTown();
        e.due("BEYOND", x.hand(0, 0), -1000000001);
        e.due("NONE", x.restore(), -1000000002);
        e.due("STATE", x.council(), -1000000003);
        Towns.homes(x, 0, 0);
        for (int i = 0; i < 4; i++) {
            x.hand(60, 0);
        }
        e.due("FULL", x.hand(60, 0), -1000000004);
        x.home(0, 0);
        x.person(0, 0);
        e.due("KIND", x.as(0, 1), -1000000005);
        e.due("PARTED", x.voice(0, 3, 1), -1000000006);
        x.text(0);
        x.check();
        int[] want = {0, 2, 1, 1, 1, 1, 1};
        for (int k = 1; k <= 6; k++) {
            e.due("told(" + k + ")", x.told(k), want[k]);
        }
    }
}
