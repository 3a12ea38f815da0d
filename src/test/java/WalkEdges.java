/** Sentences of promises 22 to 26, and what they rest on: where one may be. */
final class WalkEdges {
    private final Edges e;

    WalkEdges(Edges e) {
        this.e = e;
    }

    void run() {
        soonest();
        soonestBeyond();
        soonestNone();
        rooms();
        roomsBeyond();
        justWhereOneIs();
        everyMinute();
        nearEnough();
        spansOfNow();
        watch();
        watchBeyond();
        watchState();
        watchNone();
        neitherOfBoth();
        fewest();
        leastSet();
        best();
        bestBeyond();
        worthBehind();
        leastOfSeveral();
        odds();
        oddsBeyond();
        ifOneIsThere();
        nothingByOne();
    }

    /** A HAND with HOUSES so FAR, and a townsman in HOUSE 0: one goes from FAR to FAR by 1 a MINUTE. */
    private static HandTown row(int... fars) {
        HandTown x = Towns.hands(60, 0);
        for (int far : fars) {
            x.home(0, far);
        }
        x.person(0, 0);
        return x;
    }

    private void soonest() {
        e.promise(22, "SOONEST");
        e.due("where one is", Towns.leapAt(5).soonest(0, 0), 0);
        e.due("by a leap now", Towns.leapAt(0).soonest(0, 1), 1);
        e.due("by a leap at 1", Towns.leapAt(1).soonest(0, 1), 2);
        e.due("the latest", Towns.leapAt(719).soonest(0, 1), 720);
        HandTown x = Towns.leapAt(720);
        x.minutes(1);
        e.due("the latest, from MINUTE 1 on", x.soonest(0, 1), 720);
        e.due("MINUTE stays", x.count(3), 1);
        e.due("one stays", x.personIs(0, 2), 0);
        HandTown eight = row(0, 1, 2, 3, 4, 5, 6, 7);
        for (int home = 0; home < 8; home++) {
            e.due("along a row", eight.soonest(0, home), home);
        }
        eight.person(9, 7);
        for (int home = 0; home < 8; home++) {
            e.due("back along a row", eight.soonest(1, home), 7 - home);
        }
    }

    private void soonestBeyond() {
        e.promise(22, "BEYOND");
        HandTown x = row(0, 1);
        e.refuses(Dues.BEYOND, "SOMEBODY", v -> x.soonest(v, 0), -1, 1, 6);
        e.refuses(Dues.BEYOND, "HOUSE", v -> x.soonest(0, v), -1, 2, 8);
        e.due("without anything", new HandTown().soonest(0, 0), Dues.BEYOND);
    }

    private void soonestNone() {
        e.promise(22, "NONE: not by 720");
        e.due("by a leap at 720", Towns.leapAt(720).soonest(0, 1), Dues.NONE);
        e.due("never: 30 APART", Towns.pair(30, 0, 0, 0).soonest(0, 1), Dues.NONE);
        e.due("never: too FAR", row(0, 2).soonest(0, 1), Dues.NONE);
        HandTown x = Towns.leapAt(0);
        x.minutes(1);
        e.due("too late", x.soonest(0, 1), Dues.NONE);
    }

    private void rooms() {
        e.promise(23, "ROOMS by n (0 .. 720)");
        e.due("the least", Towns.leapAt(0).rooms(0, 0), 1);
        e.due("a leap now by 1", Towns.leapAt(0).rooms(0, 1), 3);
        e.due("the most: a leap at 719", Towns.leapAt(719).rooms(0, 720), 3);
        e.due("a leap at 719 by 719", Towns.leapAt(719).rooms(0, 719), 1);
        e.due("a leap at 720 by 720", Towns.leapAt(720).rooms(0, 720), 1);
        HandTown x = row(0, 1, 2, 3, 4, 5, 6, 7);
        for (int n = 0; n <= 8; n++) {
            e.due("along a row by " + n, x.rooms(0, n), Math.min(255, (2 << n) - 1));
        }
        e.due("all eight by 720", x.rooms(0, 720), 255);
    }

    private void roomsBeyond() {
        e.promise(23, "BEYOND");
        HandTown x = row(0, 1);
        e.refuses(Dues.BEYOND, "SOMEBODY", v -> x.rooms(v, 0), -1, 1, 6);
        e.refuses(Dues.BEYOND, "n", v -> x.rooms(0, v), -1, 721);
        e.due("without anybody", new HandTown().rooms(0, 0), Dues.BEYOND);
    }

    private void justWhereOneIs() {
        e.term("(0: just where one is)");
        HandTown x = row(0, 1, 0, 1, 0, 1, 0, 1);
        x.person(60, 7);
        x.person(60, 3);
        e.due("HOUSE 0", x.rooms(0, 0), 1);
        e.due("HOUSE 7", x.rooms(1, 0), 128);
        e.due("HOUSE 3", x.rooms(2, 0), 8);
        e.due("by 1", x.rooms(2, 1), 255);
    }

    private void everyMinute() {
        e.term("Each MINUTE one may stay, or be in any HOUSE to which one GETS from where one is");
        // over to HAND 1 at MINUTE 2 alone, along HAND 0 at each: FAR 2 must be reached by then
        HandTown x = Towns.homes(Towns.hands(60, 0, 60, 30), 0, 0, 0, 1, 0, 2, 1, 3, 1, 4);
        x.person(0, 0);
        Dues.read(x, 0, "30*(t=2)");
        e.due("by 2: along HAND 0", x.rooms(0, 2), 7);
        e.due("by 3: over to FAR 3", x.rooms(0, 3), 15);
        e.due("by 4: to FAR 4", x.rooms(0, 4), 31);
        Dues.read(x, 0, "30*(t=1)");
        e.due("a MINUTE too early", x.rooms(0, 9), 7);
        e.due("one who is there already", Towns.leapAt(3).rooms(0, 3), 1);
        e.due("one who stayed till then", Towns.leapAt(3).rooms(0, 4), 3);
    }

    private void nearEnough() {
        e.term("APART no more than one's LEAPS");
        int[] aparts = {0, 3, 4, 30, 56, 57};
        boolean[] near = {true, true, false, false, false, true};
        for (int i = 0; i < aparts.length; i++) {
            // a townsman of 9 LEAPS 3, to the HAND ahead of his and to the one behind it
            HandTown x = Towns.pair(aparts[i], 0, 0, 9);
            x.person(9, 1);
            String of = aparts[i] + " APART";
            e.all(of + ", ROOMS", near[i] ? 3 : 1, x.rooms(0, 1), x.rooms(0, 9), x.personIs(0, 5));
            e.all(of + ", ROOMS from HAND 1", near[i] ? 3 : 2, x.rooms(1, 1), x.rooms(1, 9), x.personIs(1, 5));
            e.all(of + ", SOONEST", near[i] ? 1 : Dues.NONE, x.soonest(0, 1), x.soonest(1, 0));
            e.all(of + ", WATCH", near[i] ? Dues.NONE : 0, x.watch(0, 1, 60, 0), x.watch(1, 0, 60, 0));
            e.all(of + ", ODDS", near[i] ? 1 : 0, x.odds(0, 1, 0), x.odds(1, 0, 0));
        }
        HandTown four = Towns.homes(Towns.hands(60, 0, 60, 58, 60, 2, 60, 5), 0, 0, 1, 0, 2, 0, 3, 0);
        for (int home = 0; home < 4; home++) {
            four.person(9, home);
        }
        int[] rooms = {7, 3, 13, 12};
        for (int person = 0; person < 4; person++) {
            e.due("of four HANDS, from HAND " + person, four.rooms(person, 1), rooms[person]);
            e.due("of four HANDS, by 3", four.rooms(person, 3), 15);
        }
    }

    private void spansOfNow() {
        e.term("FAR no more unlike than one's SPANS");
        HandTown x = row(0, 1, 2, 9);
        x.become(0, 60);
        e.due("a winder", x.rooms(0, 1), 15);
        e.due("SOONEST", x.soonest(0, 3), 1);
        x.become(0, 9);
        e.due("a townsman", x.rooms(0, 1), 3);
        e.due("by 9", x.rooms(0, 9), 7);
        e.due("SOONEST", x.soonest(0, 3), Dues.NONE);
        e.due("WATCH", x.watch(0, 3, 60, 0), 0);
        x.become(0, 29);
        e.due("a widow", x.rooms(0, 9), 1);
        x.become(0, 57);
        e.due("a vicar of 7", x.rooms(0, 1), 7);
        e.due("by way of FAR 2", x.rooms(0, 2), 15);
        x.become(0, 56);
        e.due("a vicar of 6", x.rooms(0, 9), 7);
    }

    private void watch() {
        e.promise(24, "WATCH, by n (1 .. 60): what 0 how many HOUSES, 1 the set");
        HandTown x = row(0, 1, 2);
        e.due("the least: none is needed", x.watch(0, 2, 1, 0), 0);
        e.due("the set", x.watch(0, 2, 1, 1), 0);
        e.due("by 2: one", x.watch(0, 2, 2, 0), 1);
        e.due("the set", x.watch(0, 2, 2, 1), 2);
        e.due("the most: one", x.watch(0, 2, 60, 0), 1);
        e.due("the set", x.watch(0, 2, 60, 1), 2);
        HandTown late = Towns.homes(Towns.hands(60, 0, 60, 30), 0, 0, 0, 1, 1, 2);
        late.person(0, 0);
        Dues.read(late, 0, "30*(t=59)");
        e.due("a leap at 59 by 60", late.watch(0, 2, 60, 1), 2);
        e.due("a leap at 59 by 59", late.watch(0, 2, 59, 1), 0);
        Dues.read(late, 0, "30*(t=60)");
        e.due("a leap at 60 by 60", late.watch(0, 2, 60, 1), 0);
        e.due("HOUSES are open again", x.rooms(0, 2), 7);
        e.due("MINUTE stays", x.count(3), 0);
        e.due("one stays", x.personIs(0, 2), 0);
    }

    private void watchBeyond() {
        e.promise(24, "BEYOND");
        HandTown x = row(0, 1, 2);
        e.refuses(Dues.BEYOND, "SOMEBODY", v -> x.watch(v, 1, 1, 0), -1, 1, 6);
        e.refuses(Dues.BEYOND, "HOUSE", v -> x.watch(0, v, 1, 0), -1, 3, 8);
        e.refuses(Dues.BEYOND, "n", v -> x.watch(0, 2, v, 0), -1, 0, 61);
        e.refuses(Dues.BEYOND, "what", v -> x.watch(0, 2, 1, v), -1, 2);
        e.all("asked ahead of STATE", Dues.BEYOND, x.watch(0, 0, 0, 0), x.watch(0, 0, 61, 0), x.watch(0, 0, 1, 2), x.watch(0, 0, 1, -1));
        e.all("asked ahead of NONE", Dues.BEYOND, x.watch(0, 1, 0, 0), x.watch(0, 1, 61, 0), x.watch(0, 1, 1, 2), x.watch(0, 1, 1, -1));
        e.due("without anything", new HandTown().watch(0, 0, 1, 0), Dues.BEYOND);
    }

    private void watchState() {
        e.promise(24, "STATE: one is in that HOUSE");
        HandTown x = row(0, 1, 2);
        x.person(0, 2);
        e.all("HOUSE 0", Dues.STATE, x.watch(0, 0, 1, 0), x.watch(0, 0, 60, 1));
        e.all("HOUSE 2", Dues.STATE, x.watch(1, 2, 1, 0), x.watch(1, 2, 60, 1));
        e.due("the other one isn't there", x.watch(1, 0, 60, 1), 2);
        e.due("alone in the one HOUSE", row(0).watch(0, 0, 1, 0), Dues.STATE);
    }

    private void watchNone() {
        e.promise(24, "NONE: by no set");
        HandTown x = row(0, 1, 2);
        e.all("the next one", Dues.NONE, x.watch(0, 1, 1, 0), x.watch(0, 1, 1, 1), x.watch(0, 1, 60, 0));
        x.become(0, 60);
        e.all("a winder", Dues.NONE, x.watch(0, 2, 1, 0), x.watch(0, 2, 60, 1));
        e.due("a leap at 59 by 60", Towns.leapAt(59).watch(0, 1, 60, 0), Dues.NONE);
        e.due("a leap at 59 by 59", Towns.leapAt(59).watch(0, 1, 59, 0), 0);
    }

    private void neitherOfBoth() {
        e.term("(neither that one, nor the one in which one is)");
        // 0 is where one is, 1 that one: both are less than HOUSE 2, but may not be shut
        HandTown x = row(0, 2, 1);
        e.due("HOUSE 2 alone", x.watch(0, 1, 9, 1), 4);
        HandTown y = row(0, 1);
        e.due("nothing is left to shut", y.watch(0, 1, 9, 1), Dues.NONE);
        HandTown z = row(0, 2, 1, 1, 1, 1, 1, 1);
        e.due("all six others", z.watch(0, 1, 9, 0), 6);
        e.due("the set", z.watch(0, 1, 9, 1), 252);
    }

    private void fewest() {
        e.term("the fewest HOUSES");
        // FAR 1 are HOUSES 1, 2, FAR 2 is HOUSE 3: one HOUSE, though of a higher bit, is fewer than two
        HandTown few = row(0, 1, 1, 2, 3);
        e.due("one", few.watch(0, 4, 60, 0), 1);
        e.due("HOUSE 3", few.watch(0, 4, 60, 1), 8);
    }

    private void leastSet() {
        e.term("of several sets the least (bits)");
        HandTown x = row(0, 3, 2, 1);
        e.due("HOUSE 2 or 3", x.watch(0, 1, 9, 1), 4);
        HandTown y = row(0, 3, 1, 2);
        e.due("HOUSE 3 or 2", y.watch(0, 1, 9, 1), 4);
        HandTown two = row(0, 3, 1, 2, 2, 1);
        e.due("HOUSES 2 and 5, or 3 and 4", two.watch(0, 1, 9, 1), 24);
    }

    private void best() {
        e.promise(25, "BEST, by n (0 .. 60): what 0 the HOUSE, 1 WORTH (any number)");
        HandTown x = row(0, 1, 2);
        e.due("the least: where one is", x.best(0, 0, 0), 0);
        e.due("its WORTH", x.best(0, 0, 1), 0);
        e.due("by 1", x.best(0, 1, 0), 1);
        e.due("its WORTH behind 1", x.best(0, 1, 1), 9);
        e.due("by 2", x.best(0, 2, 0), 2);
        e.due("its WORTH behind 2", x.best(0, 2, 1), 18);
        e.due("by 59", x.best(0, 59, 1), -39);
        e.due("the most", x.best(0, 60, 1), 20);
        HandTown late = Towns.leapAt(59);
        Dues.read(late, 1, "n");
        e.due("a leap at 59 by 60", late.best(0, 60, 0), 1);
        e.due("a leap at 59 by 59", late.best(0, 59, 0), 0);
        Dues.read(late, 0, "30*(t=60)");
        e.due("a leap at 60 by 60", late.best(0, 60, 0), 0);
        Dues.read(x, 1, "0-999-r");
        e.due("the least WORTH", x.best(0, 2, 1), -999);
        Dues.read(x, 1, "9999");
        e.due("the most WORTH", x.best(0, 2, 1), 999);
        e.due("MINUTE stays", x.count(3), 0);
    }

    private void bestBeyond() {
        e.promise(25, "BEYOND");
        HandTown x = row(0, 1);
        e.refuses(Dues.BEYOND, "SOMEBODY", v -> x.best(v, 0, 0), -1, 1, 6);
        e.refuses(Dues.BEYOND, "n", v -> x.best(0, v, 0), -1, 61);
        e.refuses(Dues.BEYOND, "what", v -> x.best(0, 0, v), -1, 2);
        e.due("without anybody", new HandTown().best(0, 0, 0), Dues.BEYOND);
    }

    private void worthBehind() {
        e.term("WORTH most behind n MINUTES");
        HandTown x = Towns.homes(Towns.hands(60, 0, 60, 50), 0, 0, 1, 0);
        x.person(60, 0);
        e.due("MARKS 9 and 59", x.best(0, 9, 0), 0);
        e.due("0 less 9", x.best(0, 9, 1), -9);
        e.due("MARKS 10 and 0", x.best(0, 10, 0), 1);
        e.due("0 less 0", x.best(0, 10, 1), 0);
        e.due("MARKS 59 and 49", x.best(0, 59, 1), -49);
        e.due("MARKS 0 and 50", x.best(0, 60, 0), 0);
    }

    private void leastOfSeveral() {
        e.term("that which is WORTH most behind n MINUTES; of several the least");
        HandTown x = row(0, 1, 0, 1, 0, 1, 0, 1);
        e.due("of 1, 3, 5, 7", x.best(0, 1, 0), 1);
        Dues.read(x, 1, "5");
        e.due("of all", x.best(0, 1, 0), 0);
        Dues.read(x, 1, "0-999");
        e.due("of all at -999", x.best(0, 1, 0), 0);
        Dues.read(x, 1, "n*200");
        e.due("of 5, 6, 7: held", x.best(0, 1, 0), 5);
        Dues.read(x, 1, "n*9999");
        e.due("of 1 to 7: held", x.best(0, 1, 0), 1);
        Dues.read(x, 1, "0-n-1");
        e.due("less than 0", x.best(0, 1, 1), -1);
        Dues.read(x, 1, "n");
        e.due("the last", x.best(0, 1, 0), 7);
        x.jump(0, 3);
        Dues.read(x, 1, "0-n");
        e.due("only where one is", x.best(0, 0, 0), 3);
        e.due("its WORTH", x.best(0, 0, 1), -3);
    }

    private void fraction(String of, HandTown x, int home, int above, int below) {
        e.due(of + ", above", x.odds(0, home, 0), above);
        e.due(of + ", below", x.odds(0, home, 1), below);
    }

    private void odds() {
        e.promise(26, "ODDS: part 0 above, 1 below the line");
        fraction("a leap now", Towns.leapAt(0), 1, 1, 60);
        fraction("a leap at 59", Towns.leapAt(59), 1, 1, 60);
        fraction("a leap at 60", Towns.leapAt(60), 1, 0, 1);
        HandTown x = Towns.leapAt(60);
        x.minutes(1);
        fraction("a leap at 60, from MINUTE 1 on", x, 1, 1, 60);
        int[][] rows = {{2, 1, 30}, {3, 1, 20}, {7, 7, 60}, {24, 2, 5}, {30, 1, 2}, {45, 3, 4}, {48, 4, 5}, {59, 59, 60}, {60, 1, 1}};
        for (int[] row : rows) {
            Dues.read(x, 0, "30*(t%60<" + row[0] + ")");
            fraction(row[0] + " of 60", x, 1, row[1], row[2]);
        }
        e.due("MINUTE stays", x.count(3), 1);
        fraction("only from where one is: not by way of FAR 1", row(0, 1, 2), 2, 0, 1);
    }

    private void oddsBeyond() {
        e.promise(26, "BEYOND");
        HandTown x = row(0, 1);
        e.refuses(Dues.BEYOND, "SOMEBODY", v -> x.odds(v, 0, 0), -1, 1, 6);
        e.refuses(Dues.BEYOND, "HOUSE", v -> x.odds(0, v, 0), -1, 2, 8);
        e.refuses(Dues.BEYOND, "part", v -> x.odds(0, 0, v), -1, 2);
        e.due("without anything", new HandTown().odds(0, 0, 0), Dues.BEYOND);
    }

    private void ifOneIsThere() {
        e.term("(1, if one is there)");
        fraction("where one is", Towns.leapAt(0), 0, 1, 1);
        fraction("alone in the one HOUSE", row(0), 0, 1, 1);
        HandTown x = row(0, 9);
        x.become(0, 20);
        fraction("a widow", x, 0, 1, 1);
    }

    private void nothingByOne() {
        e.term("a fraction in lowest terms (0 is 0 by 1)");
        fraction("30 APART", Towns.pair(30, 0, 0, 0), 1, 0, 1);
        fraction("too FAR", row(0, 2), 1, 0, 1);
    }
}
