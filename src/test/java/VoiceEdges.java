/** Sentences of promises 28 and 29, and what they rest on: voices, bodies, the trace. */
final class VoiceEdges {
    private static final int MIN = Integer.MIN_VALUE;
    private static final int MAX = Integer.MAX_VALUE;
    private static final int HAILS = 0;
    private static final int BOWS = 1;
    private static final int RINGS = 2;
    private static final int PARTS = 3;

    private final Edges e;

    VoiceEdges(Edges e) {
        this.e = e;
    }

    void run() {
        voice();
        voiceBeyond();
        voiceParted();
        body();
        bodyNone();
        traceOfLatest();
        traceOfParted();
        traceBehindBeyond();
        asTheyBegan();
        townsmanHails();
        townsmanBows();
        townsmanRings();
        townsmanParts();
        jumperHails();
        jumperParts();
        widowBows();
        milkmanRings();
        thiefHails();
        thiefRings();
        vicarBows();
        winderHails();
        winderBows();
        nextAbove();
        superFromAbove();
    }

    /** Six in one HOUSE, all of this KIND and m. */
    private static HandTown six(int km) {
        HandTown x = Towns.homes(Towns.hands(60, 0), 0, 0);
        for (int i = 0; i < 6; i++) {
            x.person(km, 0);
        }
        return x;
    }

    private void says(int km, int k, int voice, int arg, int want, int... trace) {
        HandTown x = six(km);
        String call = "km " + km + ", voice(" + k + ", " + voice + ", " + arg + ")";
        e.due(call, x.voice(k, voice, arg), want);
        e.due(call + ", BODIES", x.count(6), trace.length);
        for (int i = 0; i < trace.length; i++) {
            e.due(call + ", BODY " + i, x.body(i), trace[i]);
        }
    }

    private void voice() {
        e.promise(28, "A VOICE of SOMEBODY: any number");
        HandTown x = six(4);
        e.due("0 hails", x.voice(1, 0, 8), 9);
        e.due("1 bows", x.voice(1, 1, 8), 18);
        e.due("2 rings", x.voice(1, 2, 8), 14);
        e.due("3 parts", x.voice(1, 3, 8), 2);
        e.due("the first", x.voice(0, 0, 0), 0);
        e.due("the last", x.voice(5, 0, 0), 5);
        e.due("a number like BEYOND", x.voice(0, 0, Dues.BEYOND), Dues.BEYOND);
        e.due("a number like PARTED", x.voice(0, 0, Dues.PARTED), Dues.PARTED);
        e.all("no ERROR", 0, x.told(1), x.told(2), x.told(3), x.told(4), x.told(5), x.told(6));
        e.due("nothing else is changed", x.personIs(5, 2) + x.count(3), 0);
    }

    private void voiceBeyond() {
        e.promise(28, "BEYOND");
        HandTown x = six(0);
        e.refuses(Dues.BEYOND, "SOMEBODY", v -> x.voice(v, 0, 0), -1, 6, 7);
        e.refuses(Dues.BEYOND, "VOICE", v -> x.voice(0, v, 0), -1, 4, 5);
        e.due("asked ahead of PARTED", x.voice(6, 3, 0), Dues.BEYOND);
        e.due("nobody", new HandTown().voice(0, 0, 0), Dues.BEYOND);
        e.due("no BODY began", x.count(6), 0);
    }

    private void voiceParted() {
        e.promise(28, "PARTED");
        for (int km : new int[] {3, 13, 23, 33, 43, 53, 63}) {
            HandTown x = six(km);
            e.due("parts of km " + km, x.voice(3, PARTS, 7), Dues.PARTED);
            e.due("parts of 0, km " + km, x.voice(3, PARTS, 0), Dues.PARTED);
            e.due("told(6)", x.told(6), 2);
            e.due("the other ones don't", x.told(6) + (x.voice(2, PARTS, 0) < -1000000000 ? 1 : 0), 2);
            e.due("other VOICES don't", x.told(6) + (x.voice(3, RINGS, 0) < -1000000000 ? 1 : 0), 2);
        }
        HandTown none = six(0);
        e.due("m 0, number 0", none.voice(0, PARTS, 1), Dues.PARTED);
        e.due("m 0, number 1", none.voice(1, PARTS, 1), -1);
    }

    private void body() {
        e.promise(29, "THE TRACE's i-th");
        HandTown x = six(49);
        x.voice(0, PARTS, 7);
        int[] trace = {21, 13, 11, 50, 20, 10};
        for (int i = 0; i < trace.length; i++) {
            e.due("body(" + i + ")", x.body(i), trace[i]);
        }
        e.due("it stays", x.body(0), 21);
    }

    private void bodyNone() {
        e.promise(29, "NONE: there is none such");
        HandTown x = six(49);
        e.refuses(Dues.NONE, "no voice() yet: i", x::body, -1, 0, 1);
        x.voice(0, PARTS, 7);
        e.refuses(Dues.NONE, "of six: i", x::body, -1, 6, 7, 29, 30, 31);
        x.voice(0, HAILS, 7);
        e.refuses(Dues.NONE, "of three: i", x::body, -1, 3, 4, 5, 6);
        e.due("the third", x.body(2), 10);
    }

    private void traceOfLatest() {
        e.term("the numbers of BODIES of the latest voice()");
        HandTown x = six(49);
        x.voice(0, PARTS, 7);
        e.due("six", x.count(6), 6);
        x.voice(0, HAILS, 7);
        e.due("three", x.count(6), 3);
        e.due("the first", x.body(0), 50);
        x.become(1, 60);
        x.voice(1, HAILS, 7);
        e.due("one", x.count(6), 1);
        e.due("the first", x.body(0), 70);
    }

    private void traceOfParted() {
        e.term("voice() that answers PARTED makes it anew, too, with the BODIES that had begun");
        says(44, 4, PARTS, 7, Dues.PARTED, 21, 13);
        says(11, 1, PARTS, 7, Dues.PARTED, 21, 13);
        says(33, 3, PARTS, 7, Dues.PARTED, 13);
        HandTown x = six(44);
        x.voice(4, RINGS, 7);
        e.due("six", x.count(6), 6);
        x.voice(4, PARTS, 7);
        e.due("two", x.count(6), 2);
        e.due("the first", x.body(0), 21);
        e.due("the second", x.body(1), 13);
        e.due("no third", x.body(2), Dues.NONE);
        e.due("the next voice() isn't PARTED", x.voice(4, HAILS, 7), 21);
    }

    private void traceBehindBeyond() {
        e.term("BEYOND leaves it.");
        HandTown x = six(44);
        x.voice(4, RINGS, 7);
        e.all("BEYOND", Dues.BEYOND, x.voice(6, 0, 0), x.voice(-1, 0, 0), x.voice(0, 4, 0), x.voice(0, -1, 0));
        e.due("six", x.count(6), 6);
        e.due("the first", x.body(0), 51);
        e.due("the last", x.body(5), 10);
    }

    private void asTheyBegan() {
        e.term("as they began (what stands left is worked out first)");
        says(15, 1, PARTS, 7, -3, 21, 13, 11, 20, 10);
        says(49, 4, PARTS, 7, 7, 21, 13, 11, 50, 20, 10);
    }

    private void townsmanHails() {
        e.term("10 hails: x + k.");
        for (int k = 0; k < 6; k++) {
            says(9, k, HAILS, 7, 7 + k, 10);
        }
        says(9, 1, HAILS, MAX, MIN, 10);
        says(9, 5, HAILS, -5, 0, 10);
        says(9, 5, HAILS, MIN, MIN + 5, 10);
    }

    private void townsmanBows() {
        e.term("11 bows: hails(x) * 2.");
        says(9, 0, BOWS, 7, 14, 11, 10);
        says(9, 3, BOWS, -4, -2, 11, 10);
        says(9, 0, BOWS, 1 << 30, MIN, 11, 10);
        says(9, 0, BOWS, MIN, 0, 11, 10);
        says(9, 1, BOWS, MAX, 0, 11, 10);
    }

    private void townsmanRings() {
        e.term("12 rings: bows(x) - m.");
        says(0, 0, RINGS, 7, 14, 12, 11, 10);
        says(9, 2, RINGS, 7, 9, 12, 11, 10);
        says(1, 0, RINGS, 1 << 30, MAX, 12, 11, 10);
    }

    private void townsmanParts() {
        e.term("13 parts: x by (m - k), cut (PARTED if that is 0; that is all that voice() answers then).");
        says(5, 2, PARTS, 7, 2, 13);
        says(5, 2, PARTS, -7, -2, 13);
        says(5, 2, PARTS, 2, 0, 13);
        says(2, 5, PARTS, 7, -2, 13);
        says(2, 5, PARTS, -7, 2, 13);
        says(9, 0, PARTS, MIN, MIN / 9, 13);
        says(0, 1, PARTS, MAX, -MAX, 13);
        says(0, 1, PARTS, MIN, MIN, 13);
        says(1, 0, PARTS, MIN, MIN, 13);
        says(5, 5, PARTS, 7, Dues.PARTED, 13);
        says(15, 5, PARTS, 7, Dues.PARTED, 21, 13);
    }

    private void jumperHails() {
        e.term("20 hails: super.hails(x) - 4.");
        says(10, 0, HAILS, 7, 3, 20, 10);
        says(19, 5, HAILS, 7, 8, 20, 10);
        says(10, 1, HAILS, MIN + 2, MAX, 20, 10);
        says(10, 0, BOWS, 7, 6, 11, 20, 10);
    }

    private void jumperParts() {
        e.term("21 parts: super.parts(x) + bows(1).");
        says(15, 1, PARTS, 7, 1 - 4, 21, 13, 11, 20, 10);
        says(19, 0, PARTS, -19, -2 - 6, 21, 13, 11, 20, 10);
        says(11, 0, PARTS, MIN, MAX - 5, 21, 13, 11, 20, 10);
    }

    private void widowBows() {
        e.term("30 bows: 0 - super.bows(x).");
        says(20, 2, BOWS, 7, -18, 30, 11, 10);
        says(20, 0, BOWS, 1 << 30, MIN, 30, 11, 10);
        says(23, 2, RINGS, 7, -21, 12, 30, 11, 10);
    }

    private void milkmanRings() {
        e.term("40 rings: super.rings(x / 2).");
        says(37, 3, RINGS, 7, 5, 40, 12, 11, 10);
        says(37, 3, RINGS, -7, -7, 40, 12, 11, 10);
        says(30, 0, RINGS, -1, 0, 40, 12, 11, 10);
        says(30, 0, RINGS, MIN, MIN, 40, 12, 11, 10);
    }

    private void thiefHails() {
        e.term("50 hails: super.hails(x) * 3.");
        says(40, 0, HAILS, 7, 9, 50, 20, 10);
        says(40, 4, HAILS, MAX, MAX - 2, 50, 20, 10);
    }

    private void thiefRings() {
        e.term("51 rings: super.rings(x) ^ k.");
        says(49, 4, RINGS, 7, 37, 51, 12, 11, 50, 20, 10);
        says(49, 4, RINGS, -20, -129 ^ 4, 51, 12, 11, 50, 20, 10);
        says(40, 0, RINGS, 7, 18, 51, 12, 11, 50, 20, 10);
    }

    private void vicarBows() {
        e.term("60 bows: super.bows(x + 1).");
        says(50, 5, BOWS, 7, -26, 60, 30, 11, 10);
        says(50, 0, BOWS, MAX, 0, 60, 30, 11, 10);
        says(51, 0, RINGS, 7, -17, 12, 60, 30, 11, 10);
    }

    private void winderHails() {
        e.term("70 hails: 9.");
        says(60, 0, HAILS, 7, 9, 70);
        says(69, 5, HAILS, MIN, 9, 70);
    }

    private void winderBows() {
        e.term("71 bows: super.bows(x) + m.");
        says(60, 0, BOWS, 7, 18, 71, 11, 70);
        says(69, 5, BOWS, MAX, 27, 71, 11, 70);
        says(66, 5, RINGS, 7, 18, 12, 71, 11, 70);
    }

    private void nextAbove() {
        e.term("hails(..) is the BODY of its KIND, or of the next KIND above that has one");
        says(20, 1, HAILS, 7, 8, 10);
        says(30, 1, HAILS, 7, 8, 10);
        says(50, 1, HAILS, 7, 8, 10);
        says(10, 1, BOWS, 7, 8, 11, 20, 10);
        says(40, 1, BOWS, 7, 24, 11, 50, 20, 10);
        says(30, 1, BOWS, 7, 16, 11, 10);
        says(10, 1, RINGS, 7, 8, 12, 11, 20, 10);
        says(20, 1, RINGS, 7, -16, 12, 30, 11, 10);
        says(50, 1, RINGS, 7, -18, 12, 60, 30, 11, 10);
        says(60, 1, RINGS, 7, 18, 12, 71, 11, 70);
        says(20, 1, PARTS, 7, -7, 13);
        says(30, 1, PARTS, 7, -7, 13);
        says(40, 1, PARTS, 7, -7 - 12, 21, 13, 11, 50, 20, 10);
        says(50, 1, PARTS, 7, -7, 13);
        says(60, 1, PARTS, 7, -7, 13);
    }

    private void superFromAbove() {
        e.term("super.hails(..) that from the KIND above the BODY's on");
        says(43, 2, HAILS, 7, 15, 50, 20, 10);
        says(43, 2, RINGS, 7, 27 ^ 2, 51, 12, 11, 50, 20, 10);
        says(53, 2, BOWS, 7, -20, 60, 30, 11, 10);
        says(43, 2, PARTS, 7, 7 - 6, 21, 13, 11, 50, 20, 10);
    }
}
