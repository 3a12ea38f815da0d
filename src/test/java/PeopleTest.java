/** Promises 7 to 11: people. */
public final class PeopleTest {
    private static final Dues DUES = new Dues("PeopleTest");

    public static void main(String[] args) {
        person();
        personIs();
        leapsAndSpans();
        become();
        as();
        asOfEachKind();
        jump();
        jumpWhere();
        DUES.end();
    }

    private static void due(String call, long got, long want) {
        DUES.due(call, got, want);
    }

    /** Two hands, 30 apart for ever; houses: two on the first, FAR 0 and 1, and three on the second, 0, 1, 3. */
    private static HandTown town() {
        HandTown x = new HandTown();
        x.hand(60, 0);
        x.hand(60, 30);
        x.home(0, 0);
        x.home(0, 1);
        x.home(1, 0);
        x.home(1, 1);
        x.home(1, 3);
        return x;
    }

    private static void person() {
        due("person(0, 0) without a house", new HandTown().person(0, 0), Dues.BEYOND);
        HandTown x = town();
        due("person(-1, 0)", x.person(-1, 0), Dues.BEYOND);
        due("person(70, 0)", x.person(70, 0), Dues.BEYOND);
        due("person(0, 5)", x.person(0, 5), Dues.BEYOND);
        for (int wild : Dues.WILD) {
            due("person(" + wild + ", 0)", x.person(wild, 0), Dues.BEYOND);
            due("person(0, " + wild + ")", x.person(0, wild), Dues.BEYOND);
        }
        due("count(2)", x.count(2), 0);
        due("person(0, 0)", x.person(0, 0), 0);
        due("person(69, 4)", x.person(69, 4), 1);
        due("person(45, 1)", x.person(45, 1), 2);
        due("person(9, 1)", x.person(9, 1), 3);
        due("person(10, 1)", x.person(10, 1), 4);
        due("person(10, 1) again", x.person(10, 1), 5);
        due("person(0, 0), a seventh", x.person(0, 0), Dues.FULL);
        due("person(70, 0), a seventh: BEYOND is asked first", x.person(70, 0), Dues.BEYOND);
        due("person(0, 5), a seventh: BEYOND is asked first", x.person(0, 5), Dues.BEYOND);
        due("count(2)", x.count(2), 6);
    }

    private static void personIs() {
        HandTown x = town();
        x.person(45, 3);
        due("personIs(0, 0)", x.personIs(0, 0), 4);
        due("personIs(0, 1)", x.personIs(0, 1), 5);
        due("personIs(0, 2)", x.personIs(0, 2), 3);
        due("personIs(0, 3): 1 and 1 and 5", x.personIs(0, 3), 7);
        due("personIs(0, 4): 1 and 2", x.personIs(0, 4), 3);
        due("personIs(0, 5): all on that hand", x.personIs(0, 5), 28);
        due("personIs(0, -1)", x.personIs(0, -1), Dues.BEYOND);
        due("personIs(0, 6)", x.personIs(0, 6), Dues.BEYOND);
        due("personIs(1, 0)", x.personIs(1, 0), Dues.BEYOND);
        for (int wild : Dues.WILD) {
            due("personIs(" + wild + ", 0)", x.personIs(wild, 0), Dues.BEYOND);
            due("personIs(0, " + wild + ")", x.personIs(0, wild), Dues.BEYOND);
        }
        x.become(0, 60);
        due("personIs(0, 5) of a winder: everywhere", x.personIs(0, 5), 31);
        x.become(0, 0);
        due("personIs(0, 5) of a townsman: FAR 1 from 0", x.personIs(0, 5), 12);
        Dues.read(x, 0, "30*(t=1)");
        due("personIs(0, 5) ahead of the leap", x.personIs(0, 5), 12);
        x.minutes(1);
        due("personIs(0, 5) at the leap", x.personIs(0, 5), 15);
        x.minutes(1);
        due("personIs(0, 5) behind the leap", x.personIs(0, 5), 12);
    }

    private static void leapsAndSpans() {
        HandTown x = town();
        x.person(0, 0);
        // km, LEAPS at an even MINUTE, at an odd one, SPANS; v is m by 3
        int[][] rows = {
            {0, 0, 0, 1}, {2, 0, 0, 1}, {3, 1, 1, 1}, {9, 3, 3, 1},
            {10, 1, 1, 1}, {11, 1, 1, 2}, {15, 2, 2, 3}, {19, 4, 4, 1},
            {20, 0, 0, 0}, {25, 0, 0, 0}, {26, 1, 1, 0}, {29, 1, 1, 0},
            {30, 2, 0, 1}, {34, 3, 1, 1}, {39, 5, 3, 1},
            {40, 1, 1, 1}, {41, 2, 2, 2}, {48, 11, 11, 3}, {49, 13, 13, 1},
            {50, 0, 0, 0}, {53, 3, 3, 3}, {56, 7, 7, 6}, {59, 10, 10, 9},
            {60, 30, 30, 9}, {69, 30, 30, 9},
        };
        for (int t = 0; t < 2; t++) {
            for (int[] row : rows) {
                x.become(0, row[0]);
                due("LEAPS of " + row[0] + " at " + t, x.personIs(0, 3), row[1 + t]);
                due("SPANS of " + row[0] + " at " + t, x.personIs(0, 4), row[3]);
            }
            x.minutes(1);
        }
        leapsByText(x);
    }

    private static void leapsByText(HandTown x) {
        Dues.read(x, 0, "m*100+t*10+h");
        x.become(0, 0);
        due("LEAPS by text at 2, five houses", x.personIs(0, 3), 25);
        x.become(0, 20);
        due("half of LEAPS by text, cut", x.personIs(0, 3), 12);
        x.become(0, 31);
        due("LEAPS of a milkman by text: 30 and 2", x.personIs(0, 3), 32);
        x.become(0, 49);
        due("LEAPS of a thief by text: 30 and 1 and 9", x.personIs(0, 3), 40);
        x.become(0, 59);
        due("LEAPS of a vicar by text: 15 and 9", x.personIs(0, 3), 24);
        Dues.read(x, 0, "0-1-m");
        due("LEAPS of a vicar, v held at 0", x.personIs(0, 3), 9);
        x.become(0, 3);
        due("LEAPS of a townsman, v held at 0", x.personIs(0, 3), 0);
        x.become(0, 60);
        due("LEAPS of a winder, whatever the text", x.personIs(0, 3), 30);
    }

    private static void become() {
        HandTown x = town();
        x.person(45, 3);
        due("become(0, 12)", x.become(0, 12), 4);
        due("its kind", x.personIs(0, 0), 1);
        due("its number", x.personIs(0, 1), 2);
        due("its house stays", x.personIs(0, 2), 3);
        due("become(0, 69)", x.become(0, 69), 1);
        due("become(0, 0)", x.become(0, 0), 6);
        due("become(0, 9)", x.become(0, 9), 0);
        due("become(0, 70)", x.become(0, 70), Dues.BEYOND);
        due("become(0, -1)", x.become(0, -1), Dues.BEYOND);
        due("become(1, 0)", x.become(1, 0), Dues.BEYOND);
        for (int wild : Dues.WILD) {
            due("become(" + wild + ", 0)", x.become(wild, 0), Dues.BEYOND);
            due("become(0, " + wild + ")", x.become(0, wild), Dues.BEYOND);
        }
        due("its number stays", x.personIs(0, 1), 9);
        due("its kind stays", x.personIs(0, 0), 0);
    }

    private static void as() {
        HandTown x = town();
        x.person(47, 3);
        due("a thief as a thief", x.as(0, 4), 7);
        due("a thief as a jumper", x.as(0, 1), 7);
        due("a thief as a townsman", x.as(0, 0), 7);
        due("a thief as a widow", x.as(0, 2), Dues.KIND);
        due("as(0, 7)", x.as(0, 7), Dues.BEYOND);
        due("as(0, -1)", x.as(0, -1), Dues.BEYOND);
        due("as(1, 4)", x.as(1, 4), Dues.BEYOND);
        for (int wild : Dues.WILD) {
            due("as(" + wild + ", 0)", x.as(wild, 0), Dues.BEYOND);
            due("as(0, " + wild + ")", x.as(0, wild), Dues.BEYOND);
        }
        due("told(5)", x.told(5), 1);
    }

    private static void asOfEachKind() {
        String[] fine = {"0", "01", "02", "03", "014", "025", "06"};
        HandTown x = town();
        x.person(0, 0);
        for (int kind = 0; kind <= 6; kind++) {
            x.become(0, 10 * kind + kind);
            for (int as = 0; as <= 6; as++) {
                int want = fine[kind].indexOf('0' + as) >= 0 ? kind : Dues.KIND;
                due("one of kind " + kind + " as " + as, x.as(0, as), want);
            }
        }
    }

    private static void jump() {
        HandTown x = town();
        x.person(0, 0);
        due("jump(0, 0): where one is", x.jump(0, 0), 0);
        due("jump(0, 1): on the same hand", x.jump(0, 1), 0);
        due("one is there", x.personIs(0, 2), 1);
        due("MINUTE stays", x.count(3), 0);
        due("jump(0, 2): the other hand is 30 off", x.jump(0, 2), Dues.STATE);
        due("one stays", x.personIs(0, 2), 1);
        due("jump(0, 5)", x.jump(0, 5), Dues.BEYOND);
        due("jump(1, 0)", x.jump(1, 0), Dues.BEYOND);
        for (int wild : Dues.WILD) {
            due("jump(" + wild + ", 0)", x.jump(wild, 0), Dues.BEYOND);
            due("jump(0, " + wild + ")", x.jump(0, wild), Dues.BEYOND);
        }
        x.become(0, 60);
        due("jump(0, 4) of a winder", x.jump(0, 4), 1);
        x.become(0, 29);
        due("jump(0, 3) of a widow: FAR 1 from 3", x.jump(0, 3), Dues.STATE);
        due("jump(0, 4) of a widow: where one is", x.jump(0, 4), 4);
    }

    private static void jumpWhere() {
        HandTown x = new HandTown();
        x.hand(60, 0);
        x.hand(60, 57);
        x.home(0, 5);
        x.home(1, 7);
        x.person(16, 0);
        due("a jumper of 6: leaps 3, spans 1", x.jump(0, 1), Dues.STATE);
        x.become(0, 14);
        due("a jumper of 4: leaps 2, spans 2", x.jump(0, 1), Dues.STATE);
        x.become(0, 17);
        due("a jumper of 7: leaps 3, spans 2, over the hour", x.jump(0, 1), 0);
        due("and back", x.jump(0, 0), 1);
        x.become(0, 37);
        due("a milkman of 7: spans 1", x.jump(0, 1), Dues.STATE);
    }
}
