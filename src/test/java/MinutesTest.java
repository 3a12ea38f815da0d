/** Promises 16 to 18: minutes, draws. */
public final class MinutesTest {
    private static final Dues DUES = new Dues("MinutesTest");

    public static void main(String[] args) {
        minutes();
        lastMinute();
        looseWrong();
        looseOfNobody();
        looseOfWinders();
        looseWhereOneGets();
        seed();
        DUES.end();
    }

    private static void due(String call, long got, long want) {
        DUES.due(call, got, want);
    }

    private static void minutes() {
        HandTown x = new HandTown();
        x.hand(60, 0);
        x.hand(60, 0);
        x.home(0, 0);
        x.home(1, 0);
        x.person(0, 0);
        due("minutes(1)", x.minutes(1), 1);
        due("minutes(720)", x.minutes(720), 721);
        due("minutes(0)", x.minutes(0), Dues.BEYOND);
        due("minutes(721)", x.minutes(721), Dues.BEYOND);
        for (int wild : Dues.WILD) {
            due("minutes(" + wild + ")", x.minutes(wild), Dues.BEYOND);
        }
        due("count(3)", x.count(3), 721);
        due("nobody jumped", x.personIs(0, 2), 0);
        due("nobody drew", x.count(7), 1);
        due("the hands turned", x.handIs(0, 2), 1);
    }

    private static void lastMinute() {
        HandTown x = new HandTown();
        for (int i = 1; i <= 13; i++) {
            due("minutes(720), " + i, x.minutes(720), 720 * i);
        }
        due("minutes(640): 10000", x.minutes(640), Dues.STATE);
        due("minutes(721): BEYOND is asked first", x.minutes(721), Dues.BEYOND);
        due("minutes(600)", x.minutes(600), 9960);
        due("loose(40): 10000", x.loose(40), Dues.STATE);
        due("loose(41): BEYOND is asked first", x.loose(41), Dues.BEYOND);
        due("loose(38)", x.loose(38), 0);
        due("count(3)", x.count(3), 9998);
        due("minutes(1)", x.minutes(1), 9999);
        due("minutes(1) at the end", x.minutes(1), Dues.STATE);
        due("loose(1) at the end", x.loose(1), Dues.STATE);
        due("count(3) at the end", x.count(3), 9999);
        x = new HandTown();
        for (int i = 0; i < 13; i++) {
            x.minutes(720);
        }
        x.minutes(600);
        due("loose(39): 9999", x.loose(39), 0);
        due("count(3)", x.count(3), 9999);
    }

    private static void looseWrong() {
        HandTown x = new HandTown();
        due("loose(0)", x.loose(0), Dues.BEYOND);
        due("loose(41)", x.loose(41), Dues.BEYOND);
        for (int wild : Dues.WILD) {
            due("loose(" + wild + ")", x.loose(wild), Dues.BEYOND);
        }
        due("count(3)", x.count(3), 0);
    }

    private static void looseOfNobody() {
        HandTown x = new HandTown();
        due("loose(40) of nobody", x.loose(40), 0);
        due("nobody drew", x.count(7), 1);
        due("MINUTE", x.count(3), 40);
        x.hand(60, 0);
        x.home(0, 0);
        due("loose(3) of nobody, with a house", x.loose(3), 0);
        due("nobody drew", x.count(7), 1);
        x.person(60, 0);
        due("loose(2) with one house", x.loose(2), 0);
        due("four draws", x.count(7), -999580867);
    }

    /** Draws from 1 on, by 3 people and 5 houses: 2 to 2, 0 to 3, 1 to 1, 1 to 1, 1 to 4, 0 to 1. */
    private static HandTown town(int secondHand, int km, int one, int two, int three) {
        HandTown x = new HandTown();
        x.hand(60, 0);
        x.hand(60, secondHand);
        x.home(0, 0);
        for (int i = 1; i < 5; i++) {
            x.home(1, 0);
        }
        x.person(km, one);
        x.person(km, two);
        x.person(km, three);
        return x;
    }

    private static void looseOfWinders() {
        HandTown x = town(30, 60, 0, 1, 2);
        due("loose(1): 2 is in house 2", x.loose(1), 0);
        due("two draws", x.count(7), -1770082073);
        due("loose(1): 0 to 3", x.loose(1), 1);
        due("person 0", x.personIs(0, 2), 3);
        due("loose(4): 1 to 1, to 1, to 4, 0 to 1", x.loose(4), 2);
        due("person 0", x.personIs(0, 2), 1);
        due("person 1", x.personIs(1, 2), 4);
        due("person 2", x.personIs(2, 2), 2);
        due("twelve draws", x.count(7), 836760821);
        due("MINUTE", x.count(3), 6);
        x = town(30, 60, 0, 1, 2);
        due("loose(6) at once", x.loose(6), 3);
        due("twelve draws", x.count(7), 836760821);
        x = town(30, 60, 0, 0, 0);
        x.seed(-1);
        // 1 to 3, 0 to 3, 1 to 0, 1 to 0, 2 to 3, 1 to 0
        due("loose(6) from -1", x.loose(6), 4);
        due("person 0", x.personIs(0, 2), 3);
        due("person 1", x.personIs(1, 2), 0);
        due("person 2", x.personIs(2, 2), 3);
        due("z", x.count(7), -1585867629);
    }

    private static void looseWhereOneGets() {
        HandTown x = town(30, 0, 0, 0, 0);
        due("loose(6): the hands are apart", x.loose(6), 0);
        due("they draw all the same", x.count(7), 836760821);
        x = town(30, 0, 0, 0, 0);
        Dues.read(x, 0, "30*(t=1)");
        due("loose(6) with a leap at 1: 0 to 3, and on to 1", x.loose(6), 2);
        due("person 0", x.personIs(0, 2), 1);
        due("person 1", x.personIs(1, 2), 0);
        x = town(30, 0, 0, 0, 0);
        Dues.read(x, 0, "30*(t=2)");
        due("loose(6) with a leap at 2: 1 to 1, and on to 4", x.loose(6), 2);
        due("person 0", x.personIs(0, 2), 0);
        due("person 1", x.personIs(1, 2), 4);
        x = town(3, 30, 0, 0, 0);
        x.become(0, 0);
        due("loose(2) 3 apart", x.loose(2), 0);
        x = town(2, 0, 0, 0, 0);
        x.become(2, 30);
        due("loose(1): a milkman of 2 leaps at 0", x.loose(1), 1);
        due("person 2", x.personIs(2, 2), 2);
    }

    private static void seed() {
        HandTown x = new HandTown();
        due("seed(77)", x.seed(77), 1);
        due("count(7)", x.count(7), 77);
        due("seed(LOW - 1)", x.seed(Dues.BEYOND), 77);
        due("seed(MIN)", x.seed(Integer.MIN_VALUE), Dues.BEYOND);
        due("no ERROR was told", x.told(1), 0);
        due("seed(0)", x.seed(0), Integer.MIN_VALUE);
        x.seed(77);
        x.hand(1, 0);
        x.home(0, 0);
        x.person(0, 0);
        x.loose(1);
        due("draws go on from the seed", x.seed(0), 1589938195);
    }
}
