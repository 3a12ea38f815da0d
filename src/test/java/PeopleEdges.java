/** Sentences of promises 7 to 11, and what they rest on: kinds, leaps, spans, who gets where. */
final class PeopleEdges {
    private final Edges e;

    PeopleEdges(Edges e) {
        this.e = e;
    }

    void run() {
        person();
        personBeyond();
        personFull();
        personIs();
        personIsBeyond();
        townsmanLeaps();
        jumperLeaps();
        widowLeaps();
        milkmanLeaps();
        thiefLeaps();
        vicarLeaps();
        winderLeaps();
        spans();
        spansOfRest();
        spansOfWidow();
        spansOfVicar();
        spansOfWinder();
        become();
        becomeBeyond();
        as();
        asBeyond();
        asKind();
        jump();
        jumpBeyond();
        jumpState();
        leapsJustEnough();
        spansJustEnough();
    }

    /** HANDS 30 APART for ever; HOUSES 0, 1 on HAND 0, FAR 0, 1; HOUSES 2, 3, 4 on HAND 1, FAR 0, 1, 3. */
    private static HandTown town() {
        return Towns.homes(Towns.hands(60, 0, 60, 30), 0, 0, 0, 1, 1, 0, 1, 1, 1, 3);
    }

    private static HandTown one(int km) {
        HandTown x = town();
        x.person(km, 0);
        return x;
    }

    private void person() {
        e.promise(7, "SOMEBODY more (km: 10 times the KIND, and m), in a HOUSE: the number");
        int[] kms = {0, 69, 9, 10, 60, 59};
        int[] homes = {0, 4, 1, 2, 4, 3};
        HandTown x = town();
        for (int i = 0; i < 6; i++) {
            e.due("person(" + kms[i] + ", " + homes[i] + ")", x.person(kms[i], homes[i]), i);
        }
        for (int i = 0; i < 6; i++) {
            e.due("KIND of " + kms[i], x.personIs(i, 0), kms[i] / 10);
            e.due("m of " + kms[i], x.personIs(i, 1), kms[i] % 10);
            e.due("HOUSE of " + kms[i], x.personIs(i, 2), homes[i]);
        }
        e.due("count(2)", x.count(2), 6);
    }

    private void personBeyond() {
        e.promise(7, "BEYOND");
        HandTown x = town();
        e.due("without HOUSES", Towns.hands(60, 0).person(0, 0), Dues.BEYOND);
        e.refuses(Dues.BEYOND, "km", v -> x.person(v, 0), -1, -10, 70, 71);
        e.refuses(Dues.BEYOND, "HOUSE", v -> x.person(0, v), -1, 5, 7, 8);
        e.due("none came of it", x.count(2), 0);
        for (int i = 0; i < 6; i++) {
            x.person(0, 0);
        }
        e.all("asked ahead of FULL", Dues.BEYOND, x.person(70, 0), x.person(-1, 0), x.person(0, 5), x.person(0, -1));
    }

    private void personFull() {
        e.promise(7, "FULL");
        HandTown x = town();
        for (int i = 0; i < 6; i++) {
            x.person(10 * i + i, 1);
        }
        e.all("a seventh", Dues.FULL, x.person(0, 0), x.person(69, 4));
        e.due("count(2)", x.count(2), 6);
        e.due("the sixth stays", x.personIs(5, 1), 5);
        e.due("nobody came to HOUSE 0", x.homeIs(0, 4), 0);
    }

    private void personIs() {
        e.promise(8, "Of SOMEBODY: 0 KIND, 1 m, 2 the HOUSE, 3 LEAPS now, 4 SPANS, 5 ROOMS by 1 (from now on)");
        HandTown x = town();
        x.person(45, 3);
        e.due("KIND", x.personIs(0, 0), 4);
        e.due("m", x.personIs(0, 1), 5);
        e.due("HOUSE", x.personIs(0, 2), 3);
        e.due("LEAPS: 1 and 1 and 5", x.personIs(0, 3), 7);
        e.due("SPANS: 1 and 2", x.personIs(0, 4), 3);
        e.due("ROOMS: all on that HAND", x.personIs(0, 5), 28);
        Dues.read(x, 0, "30*(t=1)");
        e.due("LEAPS ahead of the MINUTE: 1 and 5", x.personIs(0, 3), 6);
        e.due("ROOMS ahead of the MINUTE", x.personIs(0, 5), 28);
        x.minutes(1);
        e.due("LEAPS at the MINUTE", x.personIs(0, 3), 36);
        e.due("ROOMS at the MINUTE: all", x.personIs(0, 5), 31);
        x.minutes(1);
        e.due("LEAPS behind the MINUTE", x.personIs(0, 3), 6);
        e.due("ROOMS behind the MINUTE", x.personIs(0, 5), 28);
        e.due("one stays", x.personIs(0, 2), 3);
    }

    private void personIsBeyond() {
        e.promise(8, "BEYOND");
        HandTown x = one(0);
        for (int what = 0; what <= 5; what++) {
            e.all("nobody such, what " + what, Dues.BEYOND, x.personIs(-1, what), x.personIs(1, what), town().personIs(0, what));
        }
        e.refuses(Dues.BEYOND, "SOMEBODY", v -> x.personIs(v, 0), -1, 1, 5, 6);
        e.refuses(Dues.BEYOND, "what", v -> x.personIs(0, v), -1, 6, 7);
    }

    /** LEAPS of a KIND at MINUTE 0 and 1, by each m from 0 on without a text. */
    private void leaps(int kind, int[] even, int[] odd) {
        HandTown x = one(0);
        for (int m = 0; m <= 9; m++) {
            x.become(0, 10 * kind + m);
            e.due("m " + m + " at 0", x.personIs(0, 3), even[m]);
        }
        x.minutes(1);
        for (int m = 0; m <= 9; m++) {
            x.become(0, 10 * kind + m);
            e.due("m " + m + " at 1", x.personIs(0, 3), odd[m]);
        }
    }

    /** LEAPS of a KIND with m 9 at MINUTE 0, by texts. */
    private void leapsByText(int kind, String text, int want) {
        HandTown x = one(10 * kind + 9);
        Dues.read(x, 0, text);
        e.due("m 9 by " + text, x.personIs(0, 3), want);
    }

    private void townsmanLeaps() {
        e.term("TOWNSMAN: v.");
        int[] want = {0, 0, 0, 1, 1, 1, 2, 2, 2, 3};
        leaps(0, want, want);
        leapsByText(0, "31", 30);
        leapsByText(0, "0-1", 0);
        leapsByText(0, "m", 9);
        leapsByText(0, "t", 0);
        leapsByText(0, "h", 5);
    }

    private void jumperLeaps() {
        e.term("JUMPER: v and 1.");
        int[] want = {1, 1, 1, 2, 2, 2, 3, 3, 3, 4};
        leaps(1, want, want);
        leapsByText(1, "31", 31);
        leapsByText(1, "0-1", 1);
    }

    private void widowLeaps() {
        e.term("WIDOW: half of v (cut).");
        int[] want = {0, 0, 0, 0, 0, 0, 1, 1, 1, 1};
        leaps(2, want, want);
        leapsByText(2, "29", 14);
        leapsByText(2, "30", 15);
        leapsByText(2, "99", 15);
        leapsByText(2, "1", 0);
        leapsByText(2, "0-9", 0);
    }

    private void milkmanLeaps() {
        e.term("MILKMAN: v, and 2, if t is even.");
        leaps(3, new int[] {2, 2, 2, 3, 3, 3, 4, 4, 4, 5}, new int[] {0, 0, 0, 1, 1, 1, 2, 2, 2, 3});
        leapsByText(3, "99", 32);
        leapsByText(3, "0-9", 2);
        HandTown x = one(30);
        e.due("at 0", x.personIs(0, 3), 2);
        x.minutes(2);
        e.due("at 2", x.personIs(0, 3), 2);
        Towns.pass(x, 9996);
        e.due("at 9998", x.personIs(0, 3), 2);
        x.minutes(1);
        e.due("at 9999", x.personIs(0, 3), 0);
    }

    private void thiefLeaps() {
        e.term("THIEF: as JUMPER, and m.");
        int[] want = {1, 2, 3, 5, 6, 7, 9, 10, 11, 13};
        leaps(4, want, want);
        leapsByText(4, "99", 40);
        leapsByText(4, "0-9", 10);
    }

    private void vicarLeaps() {
        e.term("VICAR: as WIDOW, and m.");
        int[] want = {0, 1, 2, 3, 4, 5, 7, 8, 9, 10};
        leaps(5, want, want);
        leapsByText(5, "99", 24);
        leapsByText(5, "1", 9);
        leapsByText(5, "0-9", 9);
    }

    private void winderLeaps() {
        e.term("WINDER: 30.");
        int[] want = {30, 30, 30, 30, 30, 30, 30, 30, 30, 30};
        leaps(6, want, want);
        leapsByText(6, "0", 30);
        leapsByText(6, "99", 30);
    }

    private void spansAre(int kind, int... want) {
        HandTown x = one(0);
        for (int m = 0; m <= 9; m++) {
            x.become(0, 10 * kind + m);
            e.due("KIND " + kind + ", m " + m, x.personIs(0, 4), want[m]);
        }
    }

    private void spans() {
        e.term("TOWNSMAN, MILKMAN: 1.");
        spansAre(0, 1, 1, 1, 1, 1, 1, 1, 1, 1, 1);
        spansAre(3, 1, 1, 1, 1, 1, 1, 1, 1, 1, 1);
    }

    private void spansOfRest() {
        e.term("JUMPER, THIEF: 1, and the rest of m by 3.");
        spansAre(1, 1, 2, 3, 1, 2, 3, 1, 2, 3, 1);
        spansAre(4, 1, 2, 3, 1, 2, 3, 1, 2, 3, 1);
    }

    private void spansOfWidow() {
        e.term("WIDOW: 0.");
        spansAre(2, 0, 0, 0, 0, 0, 0, 0, 0, 0, 0);
    }

    private void spansOfVicar() {
        e.term("VICAR: m.");
        spansAre(5, 0, 1, 2, 3, 4, 5, 6, 7, 8, 9);
    }

    private void spansOfWinder() {
        e.term("WINDER: 9.");
        spansAre(6, 9, 9, 9, 9, 9, 9, 9, 9, 9, 9);
    }

    private void become() {
        e.promise(9, "SOMEBODY becomes one of a KIND, with m (km): the KIND that it was");
        HandTown x = one(0);
        e.due("0 to 69: the most", x.become(0, 69), 0);
        e.due("its m", x.personIs(0, 1), 9);
        e.due("69 to 0: the least", x.become(0, 0), 6);
        e.due("its m", x.personIs(0, 1), 0);
        for (int kind = 1; kind <= 6; kind++) {
            e.due("to " + kind, x.become(0, 11 * kind), kind - 1);
            e.due("KIND", x.personIs(0, 0), kind);
            e.due("m", x.personIs(0, 1), kind);
        }
        e.due("to the same", x.become(0, 66), 6);
        e.due("the HOUSE stays", x.personIs(0, 2), 0);
        e.due("nobody more", x.count(2), 1);
    }

    private void becomeBeyond() {
        e.promise(9, "BEYOND");
        HandTown x = one(24);
        e.refuses(Dues.BEYOND, "SOMEBODY", v -> x.become(v, 0), -1, 1, 6);
        e.refuses(Dues.BEYOND, "km", v -> x.become(0, v), -1, -10, 70, 71);
        e.due("without anybody", town().become(0, 0), Dues.BEYOND);
        e.due("KIND stays", x.personIs(0, 0), 2);
        e.due("m stays", x.personIs(0, 1), 4);
    }

    private void as() {
        e.promise(10, "SOMEBODY as one of a KIND: m");
        HandTown x = one(9);
        e.due("a townsman", x.as(0, 0), 9);
        x.become(0, 10);
        e.all("a jumper", 0, x.as(0, 1), x.as(0, 0));
        x.become(0, 21);
        e.all("a widow", 1, x.as(0, 2), x.as(0, 0));
        x.become(0, 32);
        e.all("a milkman", 2, x.as(0, 3), x.as(0, 0));
        x.become(0, 49);
        e.all("a thief", 9, x.as(0, 4), x.as(0, 1), x.as(0, 0));
        x.become(0, 54);
        e.all("a vicar", 4, x.as(0, 5), x.as(0, 2), x.as(0, 0));
        x.become(0, 65);
        e.all("a winder", 5, x.as(0, 6), x.as(0, 0));
        e.due("it stays what it was", x.personIs(0, 0), 6);
    }

    private void asBeyond() {
        e.promise(10, "BEYOND");
        HandTown x = one(60);
        e.refuses(Dues.BEYOND, "SOMEBODY", v -> x.as(v, 0), -1, 1, 6);
        e.refuses(Dues.BEYOND, "KIND", v -> x.as(0, v), -1, 7, 8);
        e.due("without anybody", town().as(0, 0), Dues.BEYOND);
        e.due("asked ahead of KIND", x.as(1, 5), Dues.BEYOND);
    }

    private void asKind() {
        e.promise(10, "KIND: it isn't of that KIND, nor of one under it");
        HandTown x = one(0);
        int[][] others = {
            {1, 2, 3, 4, 5, 6}, {2, 3, 4, 5, 6}, {1, 3, 4, 5, 6}, {1, 2, 4, 5, 6}, {2, 3, 5, 6}, {1, 3, 4, 6}, {1, 2, 3, 4, 5},
        };
        for (int kind = 0; kind <= 6; kind++) {
            x.become(0, 10 * kind);
            for (int other : others[kind]) {
                e.due("KIND " + kind + " as " + other, x.as(0, other), Dues.KIND);
            }
        }
    }

    private void jump() {
        e.promise(11, "SOMEBODY is in a HOUSE to which one GETS now (or where one is): the HOUSE till then");
        HandTown x = one(0);
        e.due("where one is", x.jump(0, 0), 0);
        e.due("to 1", x.jump(0, 1), 0);
        e.due("one is there", x.personIs(0, 2), 1);
        e.due("and back", x.jump(0, 0), 1);
        e.due("one is there", x.personIs(0, 2), 0);
        e.due("MINUTE stays", x.count(3), 0);
        Dues.read(x, 0, "30*(t=1)");
        x.minutes(1);
        e.due("over at the MINUTE", x.jump(0, 3), 0);
        x.become(0, 20);
        x.minutes(1);
        e.due("a widow where one is", x.jump(0, 3), 3);
        x.become(0, 60);
        e.due("a winder, FAR 1 to 3", x.jump(0, 4), 3);
        e.due("a winder, over to FAR 0", x.jump(0, 0), 4);
    }

    private void jumpBeyond() {
        e.promise(11, "BEYOND");
        HandTown x = one(60);
        e.refuses(Dues.BEYOND, "SOMEBODY", v -> x.jump(v, 0), -1, 1, 6);
        e.refuses(Dues.BEYOND, "HOUSE", v -> x.jump(0, v), -1, 5, 7, 8);
        e.due("without anybody", town().jump(0, 0), Dues.BEYOND);
        e.due("one stays", x.personIs(0, 2), 0);
    }

    private void jumpState() {
        e.promise(11, "STATE: one doesn't get there");
        HandTown x = one(9);
        e.all("30 APART", Dues.STATE, x.jump(0, 2), x.jump(0, 3), x.jump(0, 4));
        e.due("one stays", x.personIs(0, 2), 0);
        Dues.read(x, 0, "30*(t=1)");
        e.due("a MINUTE ahead of the leap", x.jump(0, 2), Dues.STATE);
        x.minutes(2);
        e.due("a MINUTE behind the leap", x.jump(0, 2), Dues.STATE);
        x.become(0, 20);
        e.due("FAR 1, a widow", x.jump(0, 1), Dues.STATE);
        e.due("one stays", x.personIs(0, 2), 0);
        e.due("told(3)", x.told(3), 6);
    }

    private void leapsJustEnough() {
        e.term("if their HANDS are APART no more than one's LEAPS");
        e.all("a townsman of 9, 3 APART", 0, Towns.pair(3, 0, 0, 9).jump(0, 1), Towns.pair(57, 0, 0, 9).jump(0, 1));
        e.all("a townsman of 9, 4 APART", Dues.STATE, Towns.pair(4, 0, 0, 9).jump(0, 1), Towns.pair(56, 0, 0, 9).jump(0, 1));
        e.all("a thief of 9, 13 APART", 0, Towns.pair(13, 0, 0, 49).jump(0, 1), Towns.pair(47, 0, 0, 49).jump(0, 1));
        e.all("a thief of 9, 14 APART", Dues.STATE, Towns.pair(14, 0, 0, 49).jump(0, 1), Towns.pair(46, 0, 0, 49).jump(0, 1));
        e.due("a winder, 30 APART", Towns.pair(30, 0, 0, 60).jump(0, 1), 0);
        e.due("a widow of 0, 0 APART", Towns.pair(0, 0, 0, 20).jump(0, 1), 0);
        e.due("a widow of 0, 1 APART", Towns.pair(1, 0, 0, 20).jump(0, 1), Dues.STATE);
    }

    private void spansJustEnough() {
        e.term("FAR no more unlike than one's SPANS (also if they are on one HAND)");
        HandTown x = Towns.homes(Towns.hands(60, 0), 0, 0, 0, 9, 0, 2, 0, 3);
        x.person(60, 0);
        e.due("a winder, FAR 0 to 9", x.jump(0, 1), 0);
        e.due("a winder, FAR 9 to 0", x.jump(0, 0), 1);
        x.become(0, 59);
        e.due("a vicar of 9, FAR 0 to 9", x.jump(0, 1), 0);
        x.become(0, 58);
        e.due("a vicar of 8, FAR 9 to 0", x.jump(0, 0), Dues.STATE);
        x.become(0, 57);
        e.due("a vicar of 7, FAR 9 to 2", x.jump(0, 2), 1);
        x.become(0, 10);
        e.due("a jumper of 0, FAR 2 to 0", x.jump(0, 0), Dues.STATE);
        x.become(0, 11);
        e.due("a jumper of 1, FAR 2 to 0", x.jump(0, 0), 2);
        e.due("a jumper of 1, FAR 0 to 3", x.jump(0, 3), Dues.STATE);
        x.become(0, 12);
        e.due("a jumper of 2, FAR 0 to 3", x.jump(0, 3), 0);
        x.become(0, 9);
        e.due("a townsman, FAR 3 to 2", x.jump(0, 2), 3);
        e.due("a townsman, FAR 2 to 0", x.jump(0, 0), Dues.STATE);
        x.become(0, 29);
        e.due("a widow, FAR 2 to 3", x.jump(0, 3), Dues.STATE);
        e.due("on unlike HANDS, FAR 1 to 3", Towns.pair(0, 1, 3, 9).jump(0, 1), Dues.STATE);
        e.due("on unlike HANDS, FAR 3 to 2", Towns.pair(0, 3, 2, 9).jump(0, 1), 0);
    }
}
