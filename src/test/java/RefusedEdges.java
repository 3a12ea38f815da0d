import java.util.function.ToIntFunction;

/**
 * What stands ahead of all promises: in which order ERRORS are asked, and that an act that answers one changes
 * nothing but what told() tells. For the latter two towns are made alike, one of them refuses an act, and all that
 * can be seen of both must be alike still.
 */
final class RefusedEdges {
    private static final int MIN = Integer.MIN_VALUE;
    private static final int MAX = Integer.MAX_VALUE;

    private final Edges e;

    RefusedEdges(Edges e) {
        this.e = e;
    }

    void run() {
        order();
        changesNothing();
    }

    private void order() {
        e.term("Each act tells its ERRORS in the order in which they are asked");
        e.all("BEYOND ahead of FULL", Dues.BEYOND, full().hand(0, 0), full().home(4, 0), full().home(0, 10), full().person(70, 0),
            full().person(0, 8), full().feed(0L, 9));
        e.all("BEYOND ahead of STATE", Dues.BEYOND, full().minutes(721), full().loose(41), full().watch(0, 0, 0, 0),
            full().watch(0, 0, 1, 2), full().sheet(4, 8, -1), full().sheet(0, 7, -1));
        e.all("STATE ahead of BEYOND of n", Dues.STATE, full().sheet(0, 8, -1), full().sheet(0, 8, MIN));
        e.all("BEYOND ahead of NONE", Dues.BEYOND, full().move(3, 0, 4, 0, 1), full().move(4, 0, 3, 0, 1), full().meet(4, 4));
        e.all("STATE ahead of NONE", Dues.STATE, full().watch(0, 0, 1, 0));
        e.all("NONE ahead of BEYOND of numbers", Dues.NONE, full().put(3, -1, 0), full().move(3, -1, 0, 0, 1), full().move(0, 0, 3, 0, -1));
        e.all("KIND ahead of BEYOND of numbers", Dues.KIND, full().move(0, 0, 1, 0, -1), full().move(0, 0, 1, 9, 9));
        e.all("BEYOND ahead of KIND", Dues.BEYOND, full().as(0, 7), full().as(6, 1));
    }

    /** A town with as much of everything as there may be, HANDS that never meet, somebody who parts, an IMAGE. */
    private static HandTown full() {
        HandTown x = Towns.homes(Towns.hands(60, 5, 60, 35, 30, 7, 7, 100), 0, 0, 0, 1, 1, 0, 1, 5, 2, 2, 2, 9, 3, 3, 3, 0);
        int[] kms = {3, 11, 24, 30, 47, 69};
        for (int i = 0; i < 6; i++) {
            x.person(kms[i], i);
        }
        Dues.read(x, 0, "m/2+t%2");
        Dues.read(x, 1, "r*2+n");
        x.minutes(7);
        x.tell(12);
        Dues.feed(x, "1+");
        x.image();
        Dues.feed(x, "m+1".repeat(19) + "m");
        for (int i = 1; i < 24; i++) {
            x.tell(i);
        }
        x.jump(5, 0);
        x.frost(2, 3);
        x.seed(77);
        Towns.pass(x, 9990 - 7);
        Towns.fill(x, 0, 8, 5, 6, 7, 8);
        Towns.fill(x, 1, 16, 1005, 1006, 1007);
        Towns.fill(x, 2, 32, 105, 106, 107, 108, 109);
        x.voice(4, 2, 7);
        return x;
    }

    /** All that can be seen; it is changed by that. */
    private static int[] seen(HandTown x, boolean withTrace) {
        int[] row = new int[500];
        int n = 0;
        for (int what = 0; what <= 7; what++) {
            row[n++] = what == 6 && !withTrace ? 0 : x.count(what);
        }
        for (int i = 0; withTrace && i < 6; i++) {
            row[n++] = x.body(i);
        }
        n = seenTown(x, row, n);
        for (int sheet = 0; sheet <= 3; sheet++) {
            row[n++] = x.judge(sheet);
            row[n++] = x.fits(sheet);
            row[n++] = x.move(sheet, 0, 0, 0, 1);
            row[n++] = x.put(sheet, 5, 1);
            row[n++] = x.offsets(sheet);
            for (int hand = 0; hand < 4; hand++) {
                row[n++] = x.handIs(hand, 1);
            }
        }
        row[n++] = x.check();
        row[n++] = x.text(0);
        row[n++] = x.law(0, 1, 1, 1);
        row[n++] = x.restore();
        for (int what = 0; what <= 7; what++) {
            row[n++] = what == 6 ? 0 : x.count(what);
        }
        n = seenTown(x, row, n);
        row[n++] = x.image();
        return row;
    }

    private static int seenTown(HandTown x, int[] row, int from) {
        int n = from;
        for (int hand = 0; hand < 4; hand++) {
            for (int what = 0; what <= 3; what++) {
                row[n++] = x.handIs(hand, what);
            }
        }
        for (int home = 0; home < 8; home++) {
            for (int what = 0; what <= 4; what += home < 2 ? 1 : 3) {
                row[n++] = x.homeIs(home, what);
            }
        }
        for (int person = 0; person < 6; person++) {
            for (int what = 0; what <= 3; what++) {
                row[n++] = x.personIs(person, what);
            }
        }
        row[n++] = x.law(0, 5, 1, 0);
        row[n++] = x.law(1, 5, 1, 3);
        return n;
    }

    private void same(String call, int error, HandTown refused, HandTown twin, ToIntFunction<HandTown> act) {
        int[] ahead = new int[7];
        for (int k = 1; k <= 6; k++) {
            ahead[k] = refused.told(k);
        }
        e.due(call, act.applyAsInt(refused), error);
        for (int k = 1; k <= 6; k++) {
            e.due(call + ", then told(" + k + ")", refused.told(k), ahead[k] + (error == -1000000000 - k ? 1 : 0));
        }
        int[] got = seen(refused, error != Dues.PARTED);
        int[] want = seen(twin, error != Dues.PARTED);
        for (int i = 0; i < got.length; i++) {
            e.due(call + ", then what is seen, no. " + i, got[i], want[i]);
        }
    }

    private void stays(String call, int error, ToIntFunction<HandTown> act) {
        same(call, error, full(), full(), act);
    }

    private void changesNothing() {
        e.term("one that answers an ERROR changes nothing but what told() tells");
        townStays();
        textsStay();
        thoughtsStay();
        sheetsStay();
        same("council() without HANDS", Dues.STATE, new HandTown(), new HandTown(), HandTown::council);
        same("restore() without an IMAGE", Dues.NONE, new HandTown(), new HandTown(), HandTown::restore);
    }

    private void townStays() {
        stays("hand(0, 0)", Dues.BEYOND, x -> x.hand(0, 0));
        stays("hand(60, 1440)", Dues.BEYOND, x -> x.hand(60, 1440));
        stays("hand(60, 0)", Dues.FULL, x -> x.hand(60, 0));
        stays("handIs(4, 0)", Dues.BEYOND, x -> x.handIs(4, 0));
        stays("handIs(0, 4)", Dues.BEYOND, x -> x.handIs(0, 4));
        stays("frost(0, 0)", Dues.BEYOND, x -> x.frost(0, 0));
        stays("frost(0, 100)", Dues.BEYOND, x -> x.frost(0, 100));
        stays("frost(4, 1)", Dues.BEYOND, x -> x.frost(4, 1));
        stays("home(0, 10)", Dues.BEYOND, x -> x.home(0, 10));
        stays("home(0, 0)", Dues.FULL, x -> x.home(0, 0));
        stays("homeIs(8, 0)", Dues.BEYOND, x -> x.homeIs(8, 0));
        stays("homeIs(0, 5)", Dues.BEYOND, x -> x.homeIs(0, 5));
        stays("person(70, 0)", Dues.BEYOND, x -> x.person(70, 0));
        stays("person(0, 8)", Dues.BEYOND, x -> x.person(0, 8));
        stays("person(0, 0)", Dues.FULL, x -> x.person(0, 0));
        stays("personIs(6, 0)", Dues.BEYOND, x -> x.personIs(6, 0));
        stays("personIs(0, 6)", Dues.BEYOND, x -> x.personIs(0, 6));
        stays("become(0, 70)", Dues.BEYOND, x -> x.become(0, 70));
        stays("become(0, -1)", Dues.BEYOND, x -> x.become(0, -1));
        stays("become(6, 0)", Dues.BEYOND, x -> x.become(6, 0));
        stays("as(0, 7)", Dues.BEYOND, x -> x.as(0, 7));
        stays("as(0, 1)", Dues.KIND, x -> x.as(0, 1));
        stays("jump(0, 8)", Dues.BEYOND, x -> x.jump(0, 8));
        stays("jump(6, 0)", Dues.BEYOND, x -> x.jump(6, 0));
        stays("jump(0, 3)", Dues.STATE, x -> x.jump(0, 3));
    }

    private void textsStay() {
        stays("feed(0, 0)", Dues.BEYOND, x -> x.feed(0L, 0));
        stays("feed(0, 9)", Dues.BEYOND, x -> x.feed(0L, 9));
        stays("feed(0, 1)", Dues.FULL, x -> x.feed(0L, 1));
        stays("feed(0, 8)", Dues.FULL, x -> x.feed(0L, 8));
        stays("text(2)", Dues.BEYOND, x -> x.text(2));
        stays("text(-1)", Dues.BEYOND, x -> x.text(-1));
        stays("untell(2)", Dues.BEYOND, x -> x.untell(2));
        stays("untell(-1)", Dues.BEYOND, x -> x.untell(-1));
        stays("law(2, 0, 0, 0)", Dues.BEYOND, x -> x.law(2, 0, 0, 0));
        stays("minutes(0)", Dues.BEYOND, x -> x.minutes(0));
        stays("minutes(721)", Dues.BEYOND, x -> x.minutes(721));
        stays("minutes(10)", Dues.STATE, x -> x.minutes(10));
        stays("loose(0)", Dues.BEYOND, x -> x.loose(0));
        stays("loose(41)", Dues.BEYOND, x -> x.loose(41));
        stays("loose(10)", Dues.STATE, x -> x.loose(10));
    }

    private void thoughtsStay() {
        stays("markAt(0, 10000)", Dues.BEYOND, x -> x.markAt(0, 10000));
        stays("markAt(4, 0)", Dues.BEYOND, x -> x.markAt(4, 0));
        stays("meet(0, 0)", Dues.BEYOND, x -> x.meet(0, 0));
        stays("meet(0, 1)", Dues.NONE, x -> x.meet(0, 1));
        stays("council()", Dues.NONE, HandTown::council);
        stays("soonest(6, 0)", Dues.BEYOND, x -> x.soonest(6, 0));
        stays("soonest(0, 8)", Dues.BEYOND, x -> x.soonest(0, 8));
        stays("soonest(2, 3)", Dues.NONE, x -> x.soonest(2, 3));
        stays("rooms(0, 721)", Dues.BEYOND, x -> x.rooms(0, 721));
        stays("watch(0, 1, 61, 0)", Dues.BEYOND, x -> x.watch(0, 1, 61, 0));
        stays("watch(0, 0, 1, 0)", Dues.STATE, x -> x.watch(0, 0, 1, 0));
        stays("watch(0, 1, 60, 0)", Dues.NONE, x -> x.watch(0, 1, 60, 0));
        stays("best(0, 61, 0)", Dues.BEYOND, x -> x.best(0, 61, 0));
        stays("odds(0, 0, 2)", Dues.BEYOND, x -> x.odds(0, 0, 2));
        stays("fits(4)", Dues.BEYOND, x -> x.fits(4));
        stays("fits(3)", Dues.NONE, x -> x.fits(3));
        stays("voice(6, 0, 0)", Dues.BEYOND, x -> x.voice(6, 0, 0));
        stays("voice(0, 4, 0)", Dues.BEYOND, x -> x.voice(0, 4, 0));
        stays("voice(1, 3, 0)", Dues.PARTED, x -> x.voice(1, 3, 0));
        stays("body(6)", Dues.NONE, x -> x.body(6));
        stays("body(-1)", Dues.NONE, x -> x.body(-1));
        stays("tell(0)", Dues.FULL, x -> x.tell(0));
        stays("count(8)", Dues.BEYOND, x -> x.count(8));
        stays("told(7)", Dues.BEYOND, x -> x.told(7));
        stays("told(0)", Dues.BEYOND, x -> x.told(0));
    }

    private void sheetsStay() {
        stays("sheet(4, 8, 1)", Dues.BEYOND, x -> x.sheet(4, 8, 1));
        stays("sheet(0, 9, 1)", Dues.BEYOND, x -> x.sheet(0, 9, 1));
        stays("sheet(0, 16, 25)", Dues.BEYOND, x -> x.sheet(0, 16, 25));
        stays("sheet(0, 16, -1)", Dues.STATE, x -> x.sheet(0, 16, -1));
        stays("sheet(3, 16, -1)", Dues.STATE, x -> x.sheet(3, 16, -1));
        stays("put(4, 0, 1)", Dues.BEYOND, x -> x.put(4, 0, 1));
        stays("put(3, 0, 1)", Dues.NONE, x -> x.put(3, 0, 1));
        stays("put(0, 4, 1)", Dues.BEYOND, x -> x.put(0, 4, 1));
        stays("put(0, -1, 1)", Dues.BEYOND, x -> x.put(0, -1, 1));
        stays("move(0, 0, 4, 0, 1)", Dues.BEYOND, x -> x.move(0, 0, 4, 0, 1));
        stays("move(0, 0, 3, 0, 1)", Dues.NONE, x -> x.move(0, 0, 3, 0, 1));
        stays("move(0, 0, 1, 0, 1)", Dues.KIND, x -> x.move(0, 0, 1, 0, 1));
        stays("move(0, 0, 0, 2, 3)", Dues.BEYOND, x -> x.move(0, 0, 0, 2, 3));
        stays("move(0, 2, 0, 0, 3)", Dues.BEYOND, x -> x.move(0, 2, 0, 0, 3));
        stays("move(0, 0, 0, 1, MAX)", Dues.BEYOND, x -> x.move(0, 0, 0, 1, MAX));
        stays("offsets(4)", Dues.BEYOND, x -> x.offsets(4));
        stays("offsets(3)", Dues.NONE, x -> x.offsets(3));
        stays("judge(4)", Dues.BEYOND, x -> x.judge(4));
        stays("judge(3)", Dues.NONE, x -> x.judge(3));
    }
}
