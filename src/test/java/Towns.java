/** Towns for tests. */
final class Towns {
    private Towns() {
    }

    /** HANDS, by TURN and OFFSET each. */
    static HandTown hands(int... turnsAndOffsets) {
        HandTown x = new HandTown();
        for (int i = 0; i + 1 < turnsAndOffsets.length; i += 2) {
            x.hand(turnsAndOffsets[i], turnsAndOffsets[i + 1]);
        }
        return x;
    }

    /** More HOUSES, by HAND and FAR each. */
    static HandTown homes(HandTown x, int... handsAndFars) {
        for (int i = 0; i + 1 < handsAndFars.length; i += 2) {
            x.home(handsAndFars[i], handsAndFars[i + 1]);
        }
        return x;
    }

    /** HOUSE 0 and HOUSE 1 on HANDS that are always so much APART, so FAR, and somebody in HOUSE 0. */
    static HandTown pair(int apart, int far, int otherFar, int km) {
        HandTown x = homes(hands(60, 0, 60, apart), 0, far, 1, otherFar);
        x.person(km, 0);
        return x;
    }

    /** HOUSE 0 and HOUSE 1, 30 APART for ever; a townsman in HOUSE 0 gets to HOUSE 1 at one MINUTE alone. */
    static HandTown leapAt(int minute) {
        HandTown x = pair(30, 0, 0, 0);
        Dues.read(x, 0, "30*(t=" + minute + ")");
        return x;
    }

    static HandTown pass(HandTown x, int minutes) {
        for (int left = minutes; left > 0; left -= 720) {
            x.minutes(Math.min(left, 720));
        }
        return x;
    }

    static HandTown fill(HandTown x, int sheet, int bits, int... numbers) {
        x.sheet(sheet, bits, numbers.length);
        for (int i = 0; i < numbers.length; i++) {
            x.put(sheet, i, numbers[i]);
        }
        return x;
    }
}
