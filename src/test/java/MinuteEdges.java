/** Sentences of promises 16 to 18, and what they rest on: minutes, draws. */
final class MinuteEdges {
    private static final int MIN = Integer.MIN_VALUE;

    private final Edges e;

    MinuteEdges(Edges e) {
        this.e = e;
    }

    void run() {
        minutes();
        minutesBeyond();
        minutesState();
        loose();
        looseBeyond();
        looseState();
        looseOfNobody();
        looseToAnother();
        draws();
        seed();
    }

    /** HANDS 30 APART for ever; HOUSE 0 on HAND 0, the other four on HAND 1; three of a KIND and m in HOUSES 0, 1, 2. */
    private static HandTown three(int km) {
        HandTown x = Towns.homes(Towns.hands(60, 0, 60, 30), 0, 0, 1, 0, 1, 0, 1, 0, 1, 0);
        for (int home = 0; home < 3; home++) {
            x.person(km, home);
        }
        return x;
    }

    private void minutes() {
        e.promise(16, "n (1 .. 720) MINUTES go by, nobody jumps: MINUTE");
        HandTown x = three(60);
        e.due("the least", x.minutes(1), 1);
        e.due("the most", x.minutes(720), 721);
        e.due("719", x.minutes(719), 1440);
        e.due("count(3)", x.count(3), 1440);
        e.due("nobody drew", x.count(7), 1);
        for (int person = 0; person < 3; person++) {
            e.due("nobody jumped", x.personIs(person, 2), person);
        }
        e.due("HANDS turned", x.minutes(7), 1447);
        e.due("by as much", x.handIs(0, 2), 7);
    }

    private void minutesBeyond() {
        e.promise(16, "BEYOND");
        HandTown x = new HandTown();
        e.refuses(Dues.BEYOND, "n", x::minutes, -1, 0, 721);
        e.due("none went by", x.count(3), 0);
        Towns.pass(x, 9999);
        e.refuses(Dues.BEYOND, "asked ahead of STATE: n", x::minutes, -1, 0, 721);
    }

    private void minutesState() {
        e.promise(16, "STATE: it would be above 9999");
        HandTown x = Towns.pass(new HandTown(), 9279);
        e.due("9279 and 720", x.minutes(720), 9999);
        e.all("10000 and more", Dues.STATE, x.minutes(1), x.minutes(720));
        e.due("MINUTE stays", x.count(3), 9999);
        HandTown y = Towns.pass(new HandTown(), 9280);
        e.due("9280 and 720", y.minutes(720), Dues.STATE);
        e.due("none of them went by", y.count(3), 9280);
        e.due("9280 and 719", y.minutes(719), 9999);
        HandTown z = Towns.pass(new HandTown(), 9998);
        e.due("9998 and 2", z.minutes(2), Dues.STATE);
        e.due("9998 and 1", z.minutes(1), 9999);
    }

    private void loose() {
        e.promise(17, "n (1 .. 40) MINUTES BY DRAWS: how often SOMEBODY jumped");
        HandTown x = three(60);
        // by 3 and 5 from 1 on: 2 to 2 (where one is), 0 to 3, 1 to 1 (where one is), 1 to 1, 1 to 4, 0 to 1
        e.due("the least: 2 stays in 2", x.loose(1), 0);
        e.due("two draws", x.count(7), -1770082073);
        e.due("0 jumps to 3", x.loose(1), 1);
        e.due("it is there", x.personIs(0, 2), 3);
        e.due("MINUTE", x.count(3), 2);
        HandTown y = new HandTown();
        e.due("the most", y.loose(40), 0);
        e.due("MINUTE", y.count(3), 40);
        HandTown z = three(60);
        e.due("six at once", z.loose(6), 3);
        e.due("0 is in 1", z.personIs(0, 2), 1);
        e.due("1 is in 4", z.personIs(1, 2), 4);
        e.due("2 is in 2", z.personIs(2, 2), 2);
        e.due("twelve draws", z.count(7), 836760821);
        HandTown at = three(60);
        for (int person = 0; person < 3; person++) {
            at.become(person, 0);
        }
        Dues.read(at, 0, "30*(t=1)");
        e.due("0 leaps at MINUTE 1 alone", at.loose(2), 1);
    }

    private void looseBeyond() {
        e.promise(17, "BEYOND");
        HandTown x = three(60);
        e.refuses(Dues.BEYOND, "n", x::loose, -1, 0, 41);
        e.due("none went by", x.count(3), 0);
        e.due("nobody drew", x.count(7), 1);
        Towns.pass(x, 9999);
        e.refuses(Dues.BEYOND, "asked ahead of STATE: n", x::loose, -1, 0, 41);
    }

    private void looseState() {
        e.promise(17, "STATE: MINUTE would be above 9999");
        HandTown x = Towns.pass(three(60), 9960);
        e.due("9960 and 40", x.loose(40), Dues.STATE);
        e.due("MINUTE stays", x.count(3), 9960);
        e.due("nobody drew", x.count(7), 1);
        e.due("nobody jumped", x.homeIs(0, 4), 1);
        e.all("9960 and 39 is no ERROR", 1, x.loose(39) >= 0 ? 1 : 0);
        e.due("MINUTE", x.count(3), 9999);
        e.all("10000 and more", Dues.STATE, x.loose(1), x.loose(40));
        HandTown y = Towns.pass(new HandTown(), 9998);
        e.due("9998 and 2", y.loose(2), Dues.STATE);
        e.due("9998 and 1", y.loose(1), 0);
    }

    private void looseOfNobody() {
        e.term("if there is SOMEBODY, two draws");
        HandTown x = new HandTown();
        e.due("an empty town", x.loose(3), 0);
        e.due("nobody drew", x.count(7), 1);
        e.due("MINUTES go by", x.count(3), 3);
        x.hand(60, 0);
        x.home(0, 0);
        e.due("a HOUSE, but nobody", x.loose(1), 0);
        e.due("nobody drew", x.count(7), 1);
        x.person(60, 0);
        e.due("one in the one HOUSE", x.loose(1), 0);
        e.due("two draws", x.count(7), -1770082073);
        e.due("once more", x.loose(1), 0);
        e.due("four draws", x.count(7), -999580867);
    }

    private void looseToAnother() {
        e.term("if it is another one to which that one GETS; MINUTE is 1 more");
        HandTown x = three(29);
        // 2 to 2, 0 to 3, 1 to 1, 1 to 1, 1 to 4, 0 to 1
        e.due("only 1 gets to 4: 0 is 30 APART", x.loose(6), 1);
        e.due("0 stays", x.personIs(0, 2), 0);
        e.due("1 is in 4", x.personIs(1, 2), 4);
        e.due("they draw all the same", x.count(7), 836760821);
        HandTown far = Towns.homes(Towns.hands(60, 0), 0, 0, 0, 0, 0, 0, 0, 2, 0, 0);
        for (int home = 0; home < 3; home++) {
            far.person(0, home);
        }
        e.due("0 to 3 is FAR 2 off; 1 to 4, 0 to 1", far.loose(6), 2);
        e.due("MINUTE", far.count(3), 6);
    }

    private void draws() {
        e.term("each makes it z * 1103515245 + 12345 (an int), and gives z >>> 8");
        HandTown x = three(60);
        x.seed(-1);
        // -1103502900 gives 12466657, by 3: 1; 288979989 gives 1128828, by 5: 3
        e.due("a draw less than 0: 1 to 3", x.loose(1), 1);
        e.due("z", x.count(7), 288979989);
        e.due("1 is in 3", x.personIs(1, 2), 3);
        HandTown y = three(60);
        y.seed(MIN);
        // -2147471303 gives 8388656, by 3: 2; 1406932606 gives 5495830, by 5: 0
        e.due("from MIN: 2 to 0", y.loose(1), 1);
        e.due("z", y.count(7), 1406932606);
        e.due("2 is in 0", y.personIs(2, 2), 0);
        HandTown w = three(60);
        w.seed(0);
        // 12345 gives 48, by 3: 0; -740551042 gives 13884438, by 5: 3
        e.due("from 0: 0 to 3", w.loose(1), 1);
        e.due("z", w.count(7), -740551042);
        e.due("0 is in 3", w.personIs(0, 2), 3);
    }

    private void seed() {
        e.promise(18, "z becomes v: what it was (any number)");
        HandTown x = new HandTown();
        e.due("1 at first", x.seed(0), 1);
        e.due("0", x.seed(MIN), 0);
        e.due("MIN", x.seed(Integer.MAX_VALUE), MIN);
        e.due("MAX", x.seed(Dues.BEYOND), Integer.MAX_VALUE);
        e.due("a number like BEYOND", x.seed(-1), Dues.BEYOND);
        e.due("told(1): no ERROR", x.told(1), 0);
        e.due("count(7)", x.count(7), -1);
    }
}
