/** Promises 22 to 26: where one may be, and how to keep one from a house. */
public final class WalksTest {
    private static final Dues DUES = new Dues("WalksTest");

    public static void main(String[] args) {
        soonest();
        soonestAtTheEnd();
        rooms();
        roomsAtTheEnd();
        overTheHour();
        wrongCalls();
        watch();
        watchLeast();
        watchAtTheEnd();
        best();
        bestOfSeveral();
        odds();
        oddsOfKinds();
        behindTheLastMinute();
        DUES.end();
    }

    private static void due(String call, long got, long want) {
        DUES.due(call, got, want);
    }

    /**
     * Hand 0 and hand 1 are always 30 apart; hand 2 goes twice as fast. From house 0 to 1 and 4 one of no
     * leaps gets at 0 and 60, from 1 to 3 at 30 and 90, from 1 to 2 always.
     */
    private static HandTown town(int km) {
        HandTown x = new HandTown();
        x.hand(60, 0);
        x.hand(60, 30);
        x.hand(30, 0);
        x.home(0, 0);
        x.home(2, 1);
        x.home(2, 2);
        x.home(1, 0);
        x.home(2, 0);
        x.person(km, 0);
        return x;
    }

    /** Two houses, 30 apart for ever; one leaps there at one minute alone. */
    private static HandTown leapAt(int minute) {
        HandTown x = new HandTown();
        x.hand(60, 0);
        x.hand(60, 30);
        x.home(0, 0);
        x.home(1, 0);
        x.person(0, 0);
        Dues.read(x, 0, "30*(t=" + minute + ")");
        return x;
    }

    private static void soonest() {
        HandTown x = town(0);
        due("soonest(0, 0)", x.soonest(0, 0), 0);
        due("soonest(0, 1)", x.soonest(0, 1), 1);
        due("soonest(0, 2), by 1", x.soonest(0, 2), 2);
        due("soonest(0, 3), by 1 or 4 at 30", x.soonest(0, 3), 31);
        due("nobody jumped", x.personIs(0, 2), 0);
        due("MINUTE stays", x.count(3), 0);
        x.minutes(1);
        due("soonest(0, 1) behind 1", x.soonest(0, 1), 60);
        due("soonest(0, 2) behind 1", x.soonest(0, 2), 61);
        due("soonest(0, 3) behind 1", x.soonest(0, 3), 90);
        x.become(0, 20);
        due("soonest(0, 1) of a widow", x.soonest(0, 1), Dues.NONE);
        due("soonest(0, 4) of a widow", x.soonest(0, 4), 60);
        x.become(0, 60);
        due("soonest(0, 3) of a winder", x.soonest(0, 3), 1);
    }

    private static void soonestAtTheEnd() {
        due("a leap at 0", leapAt(0).soonest(0, 1), 1);
        due("a leap at 718", leapAt(718).soonest(0, 1), 719);
        due("a leap at 719", leapAt(719).soonest(0, 1), 720);
        due("a leap at 720", leapAt(720).soonest(0, 1), Dues.NONE);
        HandTown x = leapAt(720);
        x.minutes(1);
        due("a leap at 720, behind 1", x.soonest(0, 1), 720);
        due("where one is", x.soonest(0, 0), 0);
    }

    private static void rooms() {
        HandTown x = town(0);
        due("rooms(0, 0)", x.rooms(0, 0), 1);
        due("rooms(0, 1)", x.rooms(0, 1), 19);
        due("rooms(0, 2)", x.rooms(0, 2), 23);
        due("rooms(0, 30)", x.rooms(0, 30), 23);
        due("rooms(0, 31)", x.rooms(0, 31), 31);
        due("rooms(0, 720)", x.rooms(0, 720), 31);
        x.minutes(1);
        due("rooms(0, 59) behind 1", x.rooms(0, 59), 1);
        due("rooms(0, 60) behind 1", x.rooms(0, 60), 19);
        x.become(0, 20);
        due("rooms(0, 720) of a widow", x.rooms(0, 720), 25);
        due("nobody jumped", x.personIs(0, 2), 0);
        x.person(60, 3);
        due("rooms(1, 0)", x.rooms(1, 0), 8);
        due("rooms(1, 1) of a winder", x.rooms(1, 1), 31);
    }

    private static void roomsAtTheEnd() {
        due("a leap at 719 by 719", leapAt(719).rooms(0, 719), 1);
        due("a leap at 719 by 720", leapAt(719).rooms(0, 720), 3);
        due("a leap at 720 by 720", leapAt(720).rooms(0, 720), 1);
    }

    /** Marks 58 and 2 are 4 apart: over the hour. */
    private static void overTheHour() {
        HandTown x = new HandTown();
        x.hand(60, 58);
        x.hand(60, 2);
        x.home(0, 0);
        x.home(1, 0);
        x.person(9, 0);
        due("rooms(0, 9) of leaps 3", x.rooms(0, 9), 1);
        due("soonest(0, 1) of leaps 3", x.soonest(0, 1), Dues.NONE);
        due("watch(0, 1, 9, 0) of leaps 3", x.watch(0, 1, 9, 0), 0);
        fraction(x, "leaps 3", 1, 0, 1);
        x.become(0, 19);
        due("rooms(0, 9) of leaps 4", x.rooms(0, 9), 3);
        due("soonest(0, 1) of leaps 4", x.soonest(0, 1), 1);
        due("watch(0, 1, 9, 0) of leaps 4", x.watch(0, 1, 9, 0), Dues.NONE);
        fraction(x, "leaps 4", 1, 1, 1);
        x.person(9, 1);
        due("rooms(1, 9) of leaps 3, from the other side", x.rooms(1, 9), 2);
        x.become(1, 19);
        due("rooms(1, 9) of leaps 4, from the other side", x.rooms(1, 9), 3);
    }

    private static void wrongCalls() {
        HandTown x = town(0);
        for (int wild : Dues.WILD) {
            due("soonest(" + wild + ", 0)", x.soonest(wild, 0), Dues.BEYOND);
            due("soonest(0, " + wild + ")", x.soonest(0, wild), Dues.BEYOND);
            due("rooms(" + wild + ", 0)", x.rooms(wild, 0), Dues.BEYOND);
            due("rooms(0, " + wild + ")", x.rooms(0, wild), Dues.BEYOND);
            due("watch(" + wild + ", 1, 1, 0)", x.watch(wild, 1, 1, 0), Dues.BEYOND);
            due("watch(0, " + wild + ", 1, 0)", x.watch(0, wild, 1, 0), Dues.BEYOND);
            due("watch(0, 1, " + wild + ", 0)", x.watch(0, 1, wild, 0), Dues.BEYOND);
            due("watch(0, 1, 1, " + wild + ")", x.watch(0, 1, 1, wild), Dues.BEYOND);
            due("best(" + wild + ", 0, 0)", x.best(wild, 0, 0), Dues.BEYOND);
            due("best(0, " + wild + ", 0)", x.best(0, wild, 0), Dues.BEYOND);
            due("best(0, 0, " + wild + ")", x.best(0, 0, wild), Dues.BEYOND);
            due("odds(" + wild + ", 0, 0)", x.odds(wild, 0, 0), Dues.BEYOND);
            due("odds(0, " + wild + ", 0)", x.odds(0, wild, 0), Dues.BEYOND);
            due("odds(0, 0, " + wild + ")", x.odds(0, 0, wild), Dues.BEYOND);
        }
        due("soonest(1, 0)", x.soonest(1, 0), Dues.BEYOND);
        due("soonest(0, 5)", x.soonest(0, 5), Dues.BEYOND);
        due("rooms(1, 0)", x.rooms(1, 0), Dues.BEYOND);
        due("rooms(0, -1)", x.rooms(0, -1), Dues.BEYOND);
        due("rooms(0, 721)", x.rooms(0, 721), Dues.BEYOND);
        due("watch(1, 1, 1, 0)", x.watch(1, 1, 1, 0), Dues.BEYOND);
        due("watch(0, 5, 1, 0)", x.watch(0, 5, 1, 0), Dues.BEYOND);
        due("watch(0, 1, 0, 0)", x.watch(0, 1, 0, 0), Dues.BEYOND);
        due("watch(0, 1, 61, 0)", x.watch(0, 1, 61, 0), Dues.BEYOND);
        due("watch(0, 1, 1, 2)", x.watch(0, 1, 1, 2), Dues.BEYOND);
        due("watch(0, 1, 1, -1)", x.watch(0, 1, 1, -1), Dues.BEYOND);
        due("watch(0, 0, 0, 0): BEYOND is asked first", x.watch(0, 0, 0, 0), Dues.BEYOND);
        due("watch(0, 0, 1, 2): BEYOND is asked first", x.watch(0, 0, 1, 2), Dues.BEYOND);
        due("best(1, 0, 0)", x.best(1, 0, 0), Dues.BEYOND);
        due("best(0, -1, 0)", x.best(0, -1, 0), Dues.BEYOND);
        due("best(0, 61, 0)", x.best(0, 61, 0), Dues.BEYOND);
        due("best(0, 0, 2)", x.best(0, 0, 2), Dues.BEYOND);
        due("odds(1, 0, 0)", x.odds(1, 0, 0), Dues.BEYOND);
        due("odds(0, 5, 0)", x.odds(0, 5, 0), Dues.BEYOND);
        due("odds(0, 0, 2)", x.odds(0, 0, 2), Dues.BEYOND);
        due("odds(0, 0, -1)", x.odds(0, 0, -1), Dues.BEYOND);
    }

    private static void watch() {
        HandTown x = town(0);
        due("watch(0, 0, 1, 0): one is there", x.watch(0, 0, 1, 0), Dues.STATE);
        due("watch(0, 1, 1, 0): by no set", x.watch(0, 1, 1, 0), Dues.NONE);
        due("watch(0, 3, 30, 0): one gets there later", x.watch(0, 3, 30, 0), 0);
        due("watch(0, 3, 30, 1)", x.watch(0, 3, 30, 1), 0);
        due("watch(0, 3, 31, 0): by 1 and 4", x.watch(0, 3, 31, 0), 2);
        due("watch(0, 3, 31, 1)", x.watch(0, 3, 31, 1), 18);
        due("watch(0, 2, 1, 0)", x.watch(0, 2, 1, 0), 0);
        due("watch(0, 2, 2, 0): by 1 alone", x.watch(0, 2, 2, 0), 1);
        due("watch(0, 2, 2, 1)", x.watch(0, 2, 2, 1), 2);
        // behind 3 by 4 and 1, too, so that 1 is the one to shut
        due("watch(0, 2, 3, 1)", x.watch(0, 2, 3, 1), 2);
        due("MINUTE stays", x.count(3), 0);
        due("nobody jumped", x.personIs(0, 2), 0);
        due("all houses are open again", x.rooms(0, 31), 31);
    }

    private static void watchLeast() {
        // a chain by far: start 3 - 0 - 2 - 1 goal; any one of 0 and 2 is enough
        HandTown x = new HandTown();
        x.hand(60, 0);
        x.home(0, 1);
        x.home(0, 3);
        x.home(0, 2);
        x.home(0, 0);
        x.person(0, 3);
        due("watch(0, 1, 9, 1): the least of 1 and 4", x.watch(0, 1, 9, 1), 1);
        due("watch(0, 1, 2, 0)", x.watch(0, 1, 2, 0), 0);
        due("watch(0, 1, 3, 0)", x.watch(0, 1, 3, 0), 1);
        // a second house as far out as house 0: now house 2 alone is fewer than both of these
        x.home(0, 1);
        due("watch(0, 1, 9, 1): one is fewer than two", x.watch(0, 1, 9, 1), 4);
        due("watch(0, 1, 9, 0)", x.watch(0, 1, 9, 0), 1);
        // and a second one as far out as house 2: 0 and 4, or 2 and 5
        x.home(0, 2);
        due("watch(0, 1, 9, 1): 0 and 4, not 2 and 5", x.watch(0, 1, 9, 1), 17);
        due("watch(0, 1, 9, 0)", x.watch(0, 1, 9, 0), 2);
        x.home(0, 1);
        due("watch(0, 1, 9, 1): 2 and 5, not 0, 4 and 6", x.watch(0, 1, 9, 1), 36);
        x.become(0, 11);
        // by 2: from 0 to 2, 5, from 1 to 3: one of each layer must not be left
        due("watch(0, 1, 9, 0) of a jumper", x.watch(0, 1, 9, 0), 5);
        due("watch(0, 1, 9, 1) of a jumper", x.watch(0, 1, 9, 1), 117);
        x.become(0, 60);
        due("watch(0, 1, 9, 0) of a winder", x.watch(0, 1, 9, 0), Dues.NONE);
    }

    private static void watchAtTheEnd() {
        due("a leap at 59", leapAt(59).watch(0, 1, 60, 0), Dues.NONE);
        due("a leap at 59 by 59", leapAt(59).watch(0, 1, 59, 0), 0);
        due("a leap at 60", leapAt(60).watch(0, 1, 60, 0), 0);
        HandTown x = leapAt(60);
        x.minutes(1);
        due("a leap at 60, behind 1", x.watch(0, 1, 60, 0), Dues.NONE);
    }

    private static void best() {
        HandTown x = town(0);
        due("best(0, 0, 0)", x.best(0, 0, 0), 0);
        due("best(0, 0, 1)", x.best(0, 0, 1), 0);
        // behind 1: houses 0, 1, 4 at marks 1, 2, 2
        due("best(0, 1, 0)", x.best(0, 1, 0), 1);
        due("best(0, 1, 1)", x.best(0, 1, 1), 8);
        // behind 30: houses 0, 1, 2, 4 at marks 30, 0, 0, 0
        due("best(0, 30, 0)", x.best(0, 30, 0), 2);
        due("best(0, 30, 1)", x.best(0, 30, 1), 20);
        // behind 29: at marks 29, 58, 58, 58
        due("best(0, 29, 0)", x.best(0, 29, 0), 0);
        due("best(0, 29, 1)", x.best(0, 29, 1), -29);
        due("best(0, 60, 0)", x.best(0, 60, 0), 2);
        due("best(0, 60, 1)", x.best(0, 60, 1), 20);
        x.minutes(1);
        due("best(0, 60, 1) behind 1: all but 2 and 3 are in reach", x.best(0, 60, 1), 8);
        Dues.read(x, 1, "n*10+k");
        due("best(0, 0, 1) by text", x.best(0, 0, 1), 1);
        due("best(0, 60, 0) by text", x.best(0, 60, 0), 4);
        due("best(0, 60, 1) by text", x.best(0, 60, 1), 42);
        due("MINUTE stays", x.count(3), 1);
        due("a leap at 59", leapAt(59).best(0, 60, 0), 0);
        HandTown y = leapAt(59);
        Dues.read(y, 1, "n");
        due("a leap at 59 by text", y.best(0, 60, 0), 1);
        due("a leap at 59 by text, by 59", y.best(0, 59, 0), 0);
    }

    private static void bestOfSeveral() {
        HandTown x = town(60);
        Dues.read(x, 1, "r=1|r=2");
        due("best(0, 1, 0): the least of 1 and 2", x.best(0, 1, 0), 1);
        Dues.read(x, 1, "5");
        due("best(0, 1, 0): the least of all", x.best(0, 1, 0), 0);
        Dues.read(x, 1, "0-999");
        due("best(0, 1, 0): the least of all at -999", x.best(0, 1, 0), 0);
        due("best(0, 1, 1)", x.best(0, 1, 1), -999);
        Dues.read(x, 1, "n*999");
        due("best(0, 1, 0): held, so that 1 is as good as 4", x.best(0, 1, 0), 1);
        Dues.read(x, 1, "0-(n<3)-n");
        due("best(0, 1, 1)", x.best(0, 1, 1), -1);
        x.jump(0, 3);
        due("best(0, 0, 0): where one is", x.best(0, 0, 0), 3);
        due("best(0, 0, 1)", x.best(0, 0, 1), -3);
    }

    private static void fraction(HandTown x, String town, int home, int above, int below) {
        due(town + ": odds(0, " + home + ", 0)", x.odds(0, home, 0), above);
        due(town + ": odds(0, " + home + ", 1)", x.odds(0, home, 1), below);
    }

    private static void odds() {
        HandTown x = town(0);
        fraction(x, "where one is", 0, 1, 1);
        fraction(x, "once an hour", 1, 1, 60);
        fraction(x, "never: too far out", 2, 0, 1);
        fraction(x, "never: 30 apart", 3, 0, 1);
        x.minutes(1);
        fraction(x, "once an hour, behind 1", 4, 1, 60);
        due("MINUTE stays", x.count(3), 1);
        fraction(leapAt(0), "a leap at 0", 1, 1, 60);
        fraction(leapAt(59), "a leap at 59", 1, 1, 60);
        fraction(leapAt(60), "a leap at 60", 1, 0, 1);
        HandTown y = leapAt(60);
        y.minutes(1);
        fraction(y, "a leap at 60, behind 1", 1, 1, 60);
        Dues.read(y, 0, "30*(t%2=0)");
        fraction(y, "each second minute", 1, 1, 2);
        Dues.read(y, 0, "30*(t%60<47)");
        fraction(y, "47 minutes", 1, 47, 60);
        Dues.read(y, 0, "30*(t%60<48)");
        fraction(y, "48 minutes", 1, 4, 5);
        Dues.read(y, 0, "30*(t%60<45)");
        fraction(y, "45 minutes", 1, 3, 4);
        Dues.read(y, 0, "30*(t%60<22)");
        fraction(y, "22 minutes", 1, 11, 30);
        Dues.read(y, 0, "30*(t%60<30)");
        fraction(y, "30 minutes", 1, 1, 2);
        Dues.read(y, 0, "30");
        fraction(y, "always", 1, 1, 1);
        Dues.read(y, 0, "29");
        fraction(y, "never", 1, 0, 1);
    }

    private static void oddsOfKinds() {
        // hands 0 and 2 are apart by t up to 30, and back
        fraction(town(10), "a jumper: 1", 4, 1, 20);
        fraction(town(60), "a winder", 4, 1, 1);
        fraction(town(60), "a winder, to 30 apart", 3, 1, 1);
        fraction(town(49), "a thief of 9: 13", 4, 9, 20);
        fraction(town(33), "a milkman of 3: 3 or 1", 4, 1, 12);
        fraction(town(59), "a vicar of 9: 10", 4, 7, 20);
        fraction(town(23), "a widow of 3: 0", 4, 1, 60);
        fraction(town(26), "a widow of 6: 1", 4, 1, 20);
    }

    private static void behindTheLastMinute() {
        HandTown x = leapAt(9999);
        HandTown y = new HandTown();
        for (int i = 0; i < 13; i++) {
            x.minutes(720);
        }
        x.minutes(639);
        due("a leap at 9999", x.soonest(0, 1), 1);
        Dues.read(x, 0, "30*(t=9999+1)");
        due("soonest, a leap at 10000", x.soonest(0, 1), 2);
        Dues.read(x, 0, "30*(t>9999+50)");
        due("soonest, leaps from 10050 on", x.soonest(0, 1), 52);
        due("rooms by 51", x.rooms(0, 51), 1);
        due("rooms by 52", x.rooms(0, 52), 3);
        due("watch by 51", x.watch(0, 1, 51, 0), 0);
        due("watch by 52", x.watch(0, 1, 52, 0), Dues.NONE);
        fraction(x, "9 minutes: 10050 to 10058", 1, 3, 20);
        due("MINUTE stays", x.count(3), 9999);
        due("another object", y.count(3), 0);
    }
}
