/**
 * A town whose streets are the hands of a clock: houses ride on them, and somebody in a house gets
 * to another one when the hands are near enough at that minute. ../shared/DOC.md is what it keeps.
 *
 * <p>All rows are made with the object and used again: no call makes an object or an array.
 */
public final class HandTown {
    private static final int LOW = -1000000000;
    private static final int BEYOND = 1;
    private static final int NONE = 2;
    private static final int STATE = 3;
    private static final int FULL = 4;
    private static final int KIND = 5;
    private static final int PARTED = 6;

    private static final int MOST_HANDS = 4;
    private static final int MOST_HOMES = 8;
    private static final int MOST_PEOPLE = 6;
    private static final int MOST_BYTES = 60;
    private static final int MOST_WAITING = 24;
    private static final int MOST_NUMBERS = 24;
    private static final int MOST_BODIES = 30;
    private static final int DAY = 1440;
    private static final int LAST_MINUTE = 9999;
    private static final int MOST_MINUTES = 720;
    private static final int FEW_MINUTES = 60;
    private static final int ODDS_MINUTES = 60;

    private static final int LEAPS = 0;
    private static final int WORTH = 1;

    private static final int TOWNSMAN = 0;
    private static final int JUMPER = 1;
    private static final int WIDOW = 2;
    private static final int MILKMAN = 3;
    private static final int THIEF = 4;
    private static final int VICAR = 5;
    private static final int WINDER = 6;
    /** The kind above each kind; nothing is above the townsman. */
    private static final int[] ABOVE = {-1, TOWNSMAN, TOWNSMAN, TOWNSMAN, JUMPER, WIDOW, TOWNSMAN};

    private final Town town = new Town();
    private final Town kept = new Town();
    private final Reader reader = new Reader(town);
    private final Walk walk = new Walk(town);
    private final Voices voices = new Voices();
    private final Sheet[] sheets = {new Sheet(), new Sheet(), new Sheet(), new Sheet()};
    private final int[] errors = new int[PARTED + 1];
    private int images;

    public HandTown() {
    }

    // ---- hands, houses, people

    public int hand(int turn, int offset) {
        if (!within(turn, 1, DAY) || !within(offset, 0, DAY - 1)) {
            return error(BEYOND);
        }
        if (town.hands >= MOST_HANDS) {
            return error(FULL);
        }
        return town.addHand(turn, offset);
    }

    public int handIs(int hand, int what) {
        if (!town.hasHand(hand)) {
            return error(BEYOND);
        }
        switch (what) {
            case 0: return town.turns[hand];
            case 1: return town.offset[hand];
            case 2: return town.markOf(hand, town.minute);
            case 3: return town.homesOn(hand);
            default: return error(BEYOND);
        }
    }

    public int frost(int hand, int v) {
        if (!town.hasHand(hand) || !within(v, 1, 99)) {
            return error(BEYOND);
        }
        town.offset[hand] = rest(town.offset[hand] - v, town.turns[hand]);
        return town.offset[hand];
    }

    public int home(int hand, int far) {
        if (!town.hasHand(hand) || !within(far, 0, 9)) {
            return error(BEYOND);
        }
        if (town.homes >= MOST_HOMES) {
            return error(FULL);
        }
        return town.addHome(hand, far);
    }

    public int homeIs(int home, int what) {
        if (!town.hasHome(home)) {
            return error(BEYOND);
        }
        switch (what) {
            case 0: return town.handOf[home];
            case 1: return town.far[home];
            case 2: return town.markOf(town.handOf[home], town.minute);
            case 3: return town.worth(home, town.minute);
            case 4: return town.peopleIn(home);
            default: return error(BEYOND);
        }
    }

    public int person(int km, int home) {
        if (!isKindWithNumber(km) || !town.hasHome(home)) {
            return error(BEYOND);
        }
        if (town.people >= MOST_PEOPLE) {
            return error(FULL);
        }
        return town.addPerson(km, home);
    }

    public int personIs(int person, int what) {
        if (!town.hasPerson(person)) {
            return error(BEYOND);
        }
        switch (what) {
            case 0: return town.kind[person];
            case 1: return town.number[person];
            case 2: return town.room[person];
            case 3: return town.leaps(person, town.minute);
            case 4: return town.spans(person);
            case 5: return walk.roomsBehind(person, 1);
            default: return error(BEYOND);
        }
    }

    public int become(int person, int km) {
        if (!town.hasPerson(person) || !isKindWithNumber(km)) {
            return error(BEYOND);
        }
        int was = town.kind[person];
        town.setKind(person, km);
        return was;
    }

    public int as(int person, int kind) {
        if (!town.hasPerson(person) || !within(kind, TOWNSMAN, WINDER)) {
            return error(BEYOND);
        }
        if (!isUnder(town.kind[person], kind)) {
            return error(KIND);
        }
        return town.number[person];
    }

    public int jump(int person, int home) {
        if (!town.hasPerson(person) || !town.hasHome(home)) {
            return error(BEYOND);
        }
        int was = town.room[person];
        if (home != was && !town.gets(person, home, town.minute)) {
            return error(STATE);
        }
        town.room[person] = home;
        return was;
    }

    // ---- texts

    public int feed(long word, int n) {
        if (!within(n, 1, 8)) {
            return error(BEYOND);
        }
        if (town.bytes + n > MOST_BYTES) {
            return error(FULL);
        }
        town.addBytes(word, n);
        return town.bytes;
    }

    public int text(int use) {
        if (!isUse(use)) {
            return error(BEYOND);
        }
        int fault = reader.readTape(use);
        town.bytes = 0;
        if (fault >= 0) {
            return -10 - fault;
        }
        town.laws[use].take(reader.code, reader.words);
        return 1;
    }

    public int untell(int use) {
        if (!isUse(use)) {
            return error(BEYOND);
        }
        int was = town.laws[use].words > 0 ? 1 : 0;
        town.laws[use].words = 0;
        return was;
    }

    public int law(int use, int a, int b, int c) {
        if (!isUse(use)) {
            return error(BEYOND);
        }
        return use == LEAPS ? town.leapLaw(a, b, c) : town.worthLaw(a, b, c);
    }

    // ---- minutes

    public int minutes(int n) {
        if (!within(n, 1, MOST_MINUTES)) {
            return error(BEYOND);
        }
        if (town.minute + n > LAST_MINUTE) {
            return error(STATE);
        }
        town.minute += n;
        return town.minute;
    }

    public int loose(int n) {
        if (!within(n, 1, 40)) {
            return error(BEYOND);
        }
        if (town.minute + n > LAST_MINUTE) {
            return error(STATE);
        }
        int jumps = 0;
        for (int i = 0; i < n; i++) {
            if (town.jumpsByDraws()) {
                jumps++;
            }
            town.minute++;
        }
        return jumps;
    }

    public int seed(int v) {
        int was = town.z;
        town.z = v;
        return was;
    }

    // ---- what would be

    public int markAt(int hand, int n) {
        if (!town.hasHand(hand) || !within(n, 0, LAST_MINUTE)) {
            return error(BEYOND);
        }
        return town.markOf(hand, town.minute + n);
    }

    public int meet(int one, int other) {
        if (!town.hasHand(one) || !town.hasHand(other) || one == other) {
            return error(BEYOND);
        }
        for (int i = 0; i <= DAY; i++) {
            if (town.apart(one, other, town.minute + i) == 0) {
                return i;
            }
        }
        return error(NONE);
    }

    public int council() {
        if (town.hands == 0) {
            return error(STATE);
        }
        for (int i = 0; i <= LAST_MINUTE; i++) {
            if (town.allMeet(town.minute + i)) {
                return i;
            }
        }
        return error(NONE);
    }

    public int soonest(int person, int home) {
        if (!town.hasPerson(person) || !town.hasHome(home)) {
            return error(BEYOND);
        }
        int first = walk.firstIn(person, home);
        return first < 0 ? error(NONE) : first;
    }

    public int rooms(int person, int n) {
        if (!town.hasPerson(person) || !within(n, 0, MOST_MINUTES)) {
            return error(BEYOND);
        }
        return walk.roomsBehind(person, n);
    }

    public int watch(int person, int home, int n, int what) {
        if (!town.hasPerson(person) || !town.hasHome(home)
                || !within(n, 1, FEW_MINUTES) || !within(what, 0, 1)) {
            return error(BEYOND);
        }
        if (town.room[person] == home) {
            return error(STATE);
        }
        int shut = walk.fewestShut(person, home, n);
        if (shut < 0) {
            return error(NONE);
        }
        return what == 0 ? Integer.bitCount(shut) : shut;
    }

    public int best(int person, int n, int what) {
        if (!town.hasPerson(person) || !within(n, 0, FEW_MINUTES) || !within(what, 0, 1)) {
            return error(BEYOND);
        }
        int home = town.worthiest(walk.roomsBehind(person, n), town.minute + n);
        return what == 0 ? home : town.worth(home, town.minute + n);
    }

    public int odds(int person, int home, int part) {
        if (!town.hasPerson(person) || !town.hasHome(home) || !within(part, 0, 1)) {
            return error(BEYOND);
        }
        int hits = 0;
        for (int i = 0; i < ODDS_MINUTES; i++) {
            if (home == town.room[person] || town.gets(person, home, town.minute + i)) {
                hits++;
            }
        }
        return (part == 0 ? hits : ODDS_MINUTES) / commonDivisor(hits, ODDS_MINUTES);
    }

    public int fits(int sheet) {
        int lack = lackOf(sheet);
        if (lack != 0) {
            return error(lack);
        }
        int set = 0;
        for (int hand = 0; hand < town.hands; hand++) {
            if (town.marksAre(hand, sheets[sheet])) {
                set |= 1 << hand;
            }
        }
        return set;
    }

    // ---- voices, sheets, images, what is told

    public int voice(int person, int voice, int x) {
        if (!town.hasPerson(person) || !within(voice, 0, 3)) {
            return error(BEYOND);
        }
        int answer = voices.hear(town, person, voice, x);
        return voices.parted ? error(PARTED) : answer;
    }

    public int body(int i) {
        return within(i, 0, voices.bodies - 1) ? voices.trace[i] : error(NONE);
    }

    public int sheet(int sheet, int bits, int n) {
        if (!isSheet(sheet) || bits != 0 && bits != 8 && bits != 16 && bits != 32) {
            return error(BEYOND);
        }
        if (bits != 0 && n < 0) {
            return error(STATE);
        }
        if (bits != 0 && n > MOST_NUMBERS) {
            return error(BEYOND);
        }
        sheets[sheet].lay(bits, bits == 0 ? 0 : n);
        return 1;
    }

    public int put(int sheet, int i, int v) {
        int lack = lackOf(sheet);
        if (lack != 0) {
            return error(lack);
        }
        if (!sheets[sheet].holds(i, 1)) {
            return error(BEYOND);
        }
        sheets[sheet].write(i, v);
        return 1;
    }

    public int move(int sheet, int i, int other, int j, int n) {
        if (!isSheet(sheet) || !isSheet(other)) {
            return error(BEYOND);
        }
        Sheet from = sheets[sheet];
        Sheet to = sheets[other];
        if (from.isMissing() || to.isMissing()) {
            return error(NONE);
        }
        if (from.bits != to.bits) {
            return error(KIND);
        }
        if (!from.holds(i, n) || !to.holds(j, n)) {
            return error(BEYOND);
        }
        System.arraycopy(from.numbers, i, to.numbers, j, n);
        return n;
    }

    public int offsets(int sheet) {
        int lack = lackOf(sheet);
        if (lack != 0) {
            return error(lack);
        }
        return town.takeOffsets(sheets[sheet]);
    }

    public int judge(int sheet) {
        int lack = lackOf(sheet);
        if (lack != 0) {
            return error(lack);
        }
        return town.rightRooms(sheets[sheet]);
    }

    public int image() {
        kept.take(town);
        images++;
        return images;
    }

    public int restore() {
        if (images == 0) {
            return error(NONE);
        }
        town.take(kept);
        return town.minute;
    }

    public int tell(int v) {
        if (town.waiting >= MOST_WAITING) {
            return error(FULL);
        }
        town.waits[town.waiting] = v;
        town.waiting++;
        return town.waiting;
    }

    public int check() {
        int wrong = town.firstWrongMark();
        town.waiting = 0;
        return wrong + 1;
    }

    public int count(int what) {
        switch (what) {
            case 0: return town.hands;
            case 1: return town.homes;
            case 2: return town.people;
            case 3: return town.minute;
            case 4: return town.bytes;
            case 5: return town.waiting;
            case 6: return voices.bodies;
            case 7: return town.z;
            default: return error(BEYOND);
        }
    }

    public int told(int k) {
        return within(k, BEYOND, PARTED) ? errors[k] : error(BEYOND);
    }

    private int error(int k) {
        errors[k]++;
        return LOW - k;
    }

    private static boolean within(int v, int least, int most) {
        return v >= least && v <= most;
    }

    private static boolean isUse(int use) {
        return use == LEAPS || use == WORTH;
    }

    private static boolean isSheet(int sheet) {
        return within(sheet, 0, 3);
    }

    /** The error that a sheet's numbers cannot be had by, or 0. */
    private int lackOf(int sheet) {
        if (!isSheet(sheet)) {
            return BEYOND;
        }
        return sheets[sheet].isMissing() ? NONE : 0;
    }

    private static boolean isKindWithNumber(int km) {
        return within(km, 0, 10 * WINDER + 9);
    }

    private static boolean isUnder(int kind, int above) {
        int at = kind;
        for (int i = 0; i < ABOVE.length && at >= 0; i++) {
            if (at == above) {
                return true;
            }
            at = ABOVE[at];
        }
        return false;
    }

    /** What a division leaves, from 0 on; 0 by a divisor that is none. */
    private static int rest(int v, int by) {
        return by < 1 ? 0 : Math.floorMod(v, by);
    }

    private static boolean isIn(int set, int i) {
        return (set >> i & 1) != 0;
    }

    private static int hold(int v, int least, int most) {
        return Math.max(least, Math.min(most, v));
    }

    /** The greatest number by which both are divided; b is above 0. */
    private static int commonDivisor(int a, int b) {
        for (int d = b; d > 1; d--) {
            if (a % d == 0 && b % d == 0) {
                return d;
            }
        }
        return 1;
    }

    /** All that an image keeps. */
    private static final class Town {
        int hands;
        final int[] turns = new int[MOST_HANDS];
        final int[] offset = new int[MOST_HANDS];
        int homes;
        final int[] handOf = new int[MOST_HOMES];
        final int[] far = new int[MOST_HOMES];
        int people;
        final int[] kind = new int[MOST_PEOPLE];
        final int[] number = new int[MOST_PEOPLE];
        final int[] room = new int[MOST_PEOPLE];
        int minute;
        int z = 1;
        int bytes;
        final byte[] tape = new byte[MOST_BYTES];
        int waiting;
        final int[] waits = new int[MOST_WAITING];
        final Law[] laws = {new Law(), new Law()};

        void take(Town other) {
            hands = other.hands;
            System.arraycopy(other.turns, 0, turns, 0, MOST_HANDS);
            System.arraycopy(other.offset, 0, offset, 0, MOST_HANDS);
            homes = other.homes;
            System.arraycopy(other.handOf, 0, handOf, 0, MOST_HOMES);
            System.arraycopy(other.far, 0, far, 0, MOST_HOMES);
            people = other.people;
            System.arraycopy(other.kind, 0, kind, 0, MOST_PEOPLE);
            System.arraycopy(other.number, 0, number, 0, MOST_PEOPLE);
            System.arraycopy(other.room, 0, room, 0, MOST_PEOPLE);
            minute = other.minute;
            z = other.z;
            bytes = other.bytes;
            System.arraycopy(other.tape, 0, tape, 0, MOST_BYTES);
            waiting = other.waiting;
            System.arraycopy(other.waits, 0, waits, 0, MOST_WAITING);
            for (int use = LEAPS; use <= WORTH; use++) {
                laws[use].take(other.laws[use].code, other.laws[use].words);
            }
        }

        boolean hasHand(int hand) {
            return within(hand, 0, hands - 1);
        }

        boolean hasHome(int home) {
            return within(home, 0, homes - 1);
        }

        boolean hasPerson(int person) {
            return within(person, 0, people - 1);
        }

        int addHand(int turn, int by) {
            turns[hands] = turn;
            offset[hands] = by;
            hands++;
            return hands - 1;
        }

        int addHome(int hand, int out) {
            handOf[homes] = hand;
            far[homes] = out;
            homes++;
            return homes - 1;
        }

        int addPerson(int km, int home) {
            setKind(people, km);
            room[people] = home;
            people++;
            return people - 1;
        }

        void setKind(int person, int km) {
            kind[person] = km / 10;
            number[person] = km % 10;
        }

        void addBytes(long word, int n) {
            for (int i = 0; i < n; i++) {
                tape[bytes] = (byte) (word >>> (8 * i));
                bytes++;
            }
        }

        int homesOn(int hand) {
            int set = 0;
            for (int home = 0; home < homes; home++) {
                if (handOf[home] == hand) {
                    set |= 1 << home;
                }
            }
            return set;
        }

        int peopleIn(int home) {
            int set = 0;
            for (int person = 0; person < people; person++) {
                if (room[person] == home) {
                    set |= 1 << person;
                }
            }
            return set;
        }

        int markOf(int hand, int t) {
            int turn = turns[hand];
            return turn < 1 ? 0 : rest(t + offset[hand], turn) * 60 / turn;
        }

        int apart(int one, int other, int t) {
            int difference = Math.abs(markOf(one, t) - markOf(other, t));
            return Math.min(difference, 60 - difference);
        }

        boolean allMeet(int t) {
            int mark = markOf(0, t);
            for (int hand = 1; hand < hands; hand++) {
                if (markOf(hand, t) != mark) {
                    return false;
                }
            }
            return true;
        }

        int leapLaw(int m, int t, int h) {
            Law law = laws[LEAPS];
            return hold(law.words > 0 ? law.gives(m, t, h) : m / 3, 0, 30);
        }

        int worthLaw(int r, int k, int n) {
            Law law = laws[WORTH];
            return hold(law.words > 0 ? law.gives(r, k, n) : 10 * r - k, -999, 999);
        }

        int worth(int home, int t) {
            return worthLaw(far[home], markOf(handOf[home], t), home);
        }

        int leaps(int person, int t) {
            int m = number[person];
            int v = leapLaw(m, t, homes);
            switch (kind[person]) {
                case JUMPER: return v + 1;
                case WIDOW: return v / 2;
                case MILKMAN: return t % 2 == 0 ? v + 2 : v;
                case THIEF: return v + 1 + m;
                case VICAR: return v / 2 + m;
                case WINDER: return 30;
                default: return v;
            }
        }

        int spans(int person) {
            int m = number[person];
            switch (kind[person]) {
                case JUMPER:
                case THIEF: return 1 + m % 3;
                case WIDOW: return 0;
                case VICAR: return m;
                case WINDER: return 9;
                default: return 1;
            }
        }

        /** Whether one gets at a minute from where one is to another house. */
        boolean gets(int person, int home, int t) {
            int from = room[person];
            return Math.abs(far[from] - far[home]) <= spans(person)
                    && apart(handOf[from], handOf[home], t) <= leaps(person, t);
        }

        int worthiest(int set, int t) {
            int best = -1;
            int most = 0;
            for (int home = 0; home < homes; home++) {
                if (isIn(set, home)) {
                    int worth = worth(home, t);
                    if (best < 0 || worth > most) {
                        best = home;
                        most = worth;
                    }
                }
            }
            return Math.max(best, 0);
        }

        int draw() {
            z = z * 1103515245 + 12345;
            return z >>> 8;
        }

        /** Nobody draws in an empty town. */
        boolean jumpsByDraws() {
            if (people == 0) {
                return false;
            }
            int person = rest(draw(), people);
            int home = rest(draw(), homes);
            if (home == room[person] || !gets(person, home, minute)) {
                return false;
            }
            room[person] = home;
            return true;
        }

        boolean marksAre(int hand, Sheet sheet) {
            for (int i = 0; i < sheet.length; i++) {
                if (markOf(hand, minute + i) != sheet.numbers[i]) {
                    return false;
                }
            }
            return true;
        }

        int takeOffsets(Sheet sheet) {
            int most = Math.min(sheet.length, hands);
            for (int i = 0; i < most; i++) {
                if (!within(sheet.numbers[i], 0, DAY - 1)) {
                    return i;
                }
                offset[i] = sheet.numbers[i];
            }
            return most;
        }

        int rightRooms(Sheet sheet) {
            int most = Math.min(sheet.length, people);
            for (int i = 0; i < most; i++) {
                if (room[i] != sheet.numbers[i]) {
                    return i;
                }
            }
            return most;
        }

        /** The place of the first number that waits and is not its hand's mark now, or -1. */
        int firstWrongMark() {
            for (int i = 0; i < waiting; i++) {
                if (!hasHand(i) || waits[i] != markOf(i, minute)) {
                    return i;
                }
            }
            return -1;
        }
    }

    /**
     * A text, as words in the order in which they are worked out: a number from 0 on is itself, -1,
     * -2, -3 are the names, and a sign is less than these: 0 less its byte.
     */
    private static final class Law {
        static final int FIRST_NAME = -1;
        static final int LAST_NAME = -3;

        final int[] code = new int[MOST_BYTES];
        final int[] stack = new int[MOST_BYTES];
        /** None: there is no text. */
        int words;

        void take(int[] other, int length) {
            System.arraycopy(other, 0, code, 0, length);
            words = length;
        }

        int gives(int a, int b, int c) {
            int top = 0;
            for (int i = 0; i < words; i++) {
                int word = code[i];
                if (word >= LAST_NAME && top < MOST_BYTES) {
                    stack[top] = word >= 0 ? word : word == FIRST_NAME ? a : word == LAST_NAME ? c : b;
                    top++;
                } else if (word == -'!' && top > 0) {
                    stack[top - 1] = stack[top - 1] == 0 ? 1 : 0;
                } else if (top > 1) {
                    top--;
                    stack[top - 1] = join(-word, stack[top - 1], stack[top]);
                }
            }
            return stack[0];
        }

        private static int join(int sign, int a, int b) {
            switch (sign) {
                case '|': return a != 0 || b != 0 ? 1 : 0;
                case '&': return a != 0 && b != 0 ? 1 : 0;
                case '<': return a < b ? 1 : 0;
                case '=': return a == b ? 1 : 0;
                case '>': return a > b ? 1 : 0;
                case '+': return a + b;
                case '-': return a - b;
                case '*': return a * b;
                case '/': return b == 0 ? 0 : a / b;
                case '%': return b == 0 ? 0 : a % b;
                default: return 0;
            }
        }
    }

    /** Reads the tape as a text. */
    private static final class Reader {
        private static final int MOST_OPEN = 5;
        private static final int MOST_DIGITS = 4;
        private static final int END = -1;
        // Ranks of signs: those of a higher one bind tighter.
        private static final int OR = 0;
        private static final int AND = 1;
        private static final int COMPARES = 2;
        private static final int ADDS = 3;
        private static final int TIMES = 4;
        private static final int SINGLE = 5;

        final Town town;
        final int[] code = new int[MOST_BYTES];
        int words;
        int place;
        String names = "";

        Reader(Town town) {
            this.town = town;
        }

        /** The fault, or -1 if the tape is a text; its words are in the code then. */
        int readTape(int use) {
            words = 0;
            place = 0;
            names = use == LEAPS ? "mth" : "rkn";
            return readPart(OR, 0) && place == town.bytes ? -1 : place;
        }

        private int next() {
            return place < town.bytes ? town.tape[place] & 255 : END;
        }

        private void write(int word) {
            if (words < MOST_BYTES) {
                code[words] = word;
                words++;
            }
        }

        /** Parts of the next rank with signs of this one between them; open: how many ! and ( are. */
        private boolean readPart(int rank, int open) {
            boolean goesOn = readSide(rank + 1, open);
            int most = rank == COMPARES ? 1 : MOST_BYTES;
            for (int i = 0; i < most && goesOn && rankOf(next()) == rank; i++) {
                int sign = next();
                place++;
                goesOn = readSide(rank + 1, open);
                write(-sign);
            }
            return goesOn;
        }

        private boolean readSide(int rank, int open) {
            return rank < SINGLE ? readPart(rank, open) : readSingle(open);
        }

        private boolean readSingle(int open) {
            int sign = next();
            if (isDigit(sign)) {
                readNumber();
                return true;
            }
            int name = sign == END ? -1 : names.indexOf((char) sign);
            if (name >= 0) {
                place++;
                write(Law.FIRST_NAME - name);
                return true;
            }
            if (sign != '!' && sign != '(' || open >= MOST_OPEN) {
                return false;
            }
            place++;
            return sign == '!' ? readNot(open + 1) : readBracket(open + 1);
        }

        private boolean readNot(int open) {
            boolean goesOn = readSingle(open);
            write(-'!');
            return goesOn;
        }

        private boolean readBracket(int open) {
            if (!readPart(OR, open) || next() != ')') {
                return false;
            }
            place++;
            return true;
        }

        private void readNumber() {
            int v = 0;
            for (int i = 0; i < MOST_DIGITS && isDigit(next()); i++) {
                v = v * 10 + next() - '0';
                place++;
            }
            write(v);
        }

        private static boolean isDigit(int sign) {
            return sign >= '0' && sign <= '9';
        }

        private static int rankOf(int sign) {
            switch (sign) {
                case '|': return OR;
                case '&': return AND;
                case '<':
                case '=':
                case '>': return COMPARES;
                case '+':
                case '-': return ADDS;
                case '*':
                case '/':
                case '%': return TIMES;
                default: return SINGLE;
            }
        }
    }

    /** Where one may be, minute by minute. */
    private static final class Walk {
        final Town town;
        final int[] marks = new int[MOST_HANDS];
        /** The houses on each hand. */
        final int[] riding = new int[MOST_HANDS];
        /** The houses on hands that are near each hand, at the minute last looked at. */
        final int[] near = new int[MOST_HANDS];
        /** The houses that are no more unlike each house than one's spans. */
        final int[] alike = new int[MOST_HOMES];
        /** A watch's houses to which one gets from each house, minute by minute. */
        final int[] ways = new int[FEW_MINUTES * MOST_HOMES];

        Walk(Town town) {
            this.town = town;
        }

        int roomsBehind(int person, int n) {
            begin(person);
            int set = 1 << town.room[person];
            // No walk gets farther than spans allow: looking on is in vain then.
            int most = spread(set);
            for (int i = 0; i < n && set != most; i++) {
                lookAt(person, town.minute + i);
                set = step(set);
            }
            return set;
        }

        /** Behind how many minutes one may first be in a house, or -1. */
        int firstIn(int person, int home) {
            begin(person);
            int set = 1 << town.room[person];
            if (!isIn(spread(set), home)) {
                return -1;
            }
            for (int i = 0; i <= MOST_MINUTES; i++) {
                if (isIn(set, home)) {
                    return i;
                }
                lookAt(person, town.minute + i);
                set = step(set);
            }
            return -1;
        }

        /** The least of the smallest sets of houses that keep one from a house, or -1. */
        int fewestShut(int person, int home, int n) {
            begin(person);
            for (int i = 0; i < n; i++) {
                lookAt(person, town.minute + i);
                for (int from = 0; from < town.homes; from++) {
                    ways[i * MOST_HOMES + from] = waysFrom(from);
                }
            }
            int start = 1 << town.room[person];
            int goal = 1 << home;
            int best = -1;
            int fewest = MOST_HOMES + 1;
            for (int shut = 0; shut < 1 << town.homes; shut++) {
                int size = Integer.bitCount(shut);
                if ((shut & (start | goal)) == 0 && size < fewest && keepsOut(shut, start, goal, n)) {
                    best = shut;
                    fewest = size;
                }
            }
            return best;
        }

        private boolean keepsOut(int shut, int start, int goal, int n) {
            int set = start;
            for (int i = 0; i < n && (set & goal) == 0; i++) {
                int next = set;
                for (int from = 0; from < town.homes; from++) {
                    if (isIn(set, from)) {
                        next |= ways[i * MOST_HOMES + from] & ~shut;
                    }
                }
                set = next;
            }
            return (set & goal) == 0;
        }

        private void begin(int person) {
            int spans = town.spans(person);
            for (int hand = 0; hand < town.hands; hand++) {
                riding[hand] = town.homesOn(hand);
            }
            for (int from = 0; from < town.homes; from++) {
                alike[from] = 0;
                for (int to = 0; to < town.homes; to++) {
                    if (Math.abs(town.far[from] - town.far[to]) <= spans) {
                        alike[from] |= 1 << to;
                    }
                }
            }
        }

        private void lookAt(int person, int t) {
            int leaps = town.leaps(person, t);
            for (int hand = 0; hand < town.hands; hand++) {
                marks[hand] = town.markOf(hand, t);
                near[hand] = riding[hand];
                for (int other = 0; other < hand; other++) {
                    int difference = Math.abs(marks[hand] - marks[other]);
                    if (Math.min(difference, 60 - difference) <= leaps) {
                        near[hand] |= riding[other];
                        near[other] |= riding[hand];
                    }
                }
            }
        }

        private int waysFrom(int home) {
            return alike[home] & near[town.handOf[home]];
        }

        private int step(int set) {
            int next = set;
            for (int home = 0; home < town.homes; home++) {
                if (isIn(set, home)) {
                    next |= waysFrom(home);
                }
            }
            return next;
        }

        /** All houses that one would reach if all hands were always near. */
        private int spread(int start) {
            int set = start;
            for (int i = 1; i < town.homes; i++) {
                for (int home = 0; home < town.homes; home++) {
                    if (isIn(set, home)) {
                        set |= alike[home];
                    }
                }
            }
            return set;
        }
    }

    /** Bodies of voices, each kind's own or the next one's above it. */
    private static final class Voices {
        private static final int HAILS = 0;
        private static final int BOWS = 1;
        private static final int RINGS = 2;
        private static final int PARTS = 3;
        private static final int VOICES = 4;
        /** The bodies of each kind by voice; 0: it has none. A body's tens are its kind and 1. */
        private static final int[] BODIES = {
            10, 11, 12, 13,
            20, 0, 0, 21,
            0, 30, 0, 0,
            0, 0, 40, 0,
            50, 0, 51, 0,
            0, 60, 0, 0,
            70, 71, 0, 0,
        };
        /** Far above what the bodies need: the deepest chain of them is six. */
        private static final int MOST_DEEP = 20;

        final int[] trace = new int[MOST_BODIES];
        int bodies;
        /** The latest voice could not be worked out. */
        boolean parted;
        private int kind;
        private int m;
        private int k;

        int hear(Town town, int person, int voice, int x) {
            bodies = 0;
            parted = false;
            kind = town.kind[person];
            m = town.number[person];
            k = person;
            return call(voice, kind, x, 0);
        }

        /** The voice's first body from a kind on upwards. */
        private static int find(int voice, int from) {
            int at = from;
            for (int i = 0; i < ABOVE.length && at > TOWNSMAN; i++) {
                int body = BODIES[at * VOICES + voice];
                if (body != 0) {
                    return body;
                }
                at = ABOVE[at];
            }
            return BODIES[TOWNSMAN * VOICES + voice];
        }

        private int call(int voice, int from, int x, int depth) {
            if (parted || depth > MOST_DEEP) {
                return 0;
            }
            int body = find(voice, from);
            if (bodies < MOST_BODIES) {
                trace[bodies] = body;
                bodies++;
            }
            return work(body, x, depth + 1);
        }

        private int work(int body, int x, int depth) {
            int above = ABOVE[body / 10 - 1];
            switch (body) {
                case 10: return x + k;
                case 11: return call(HAILS, kind, x, depth) * 2;
                case 12: return call(BOWS, kind, x, depth) - m;
                case 13: return part(x);
                case 20: return call(HAILS, above, x, depth) - 4;
                case 21: return call(PARTS, above, x, depth) + call(BOWS, kind, 1, depth);
                case 30: return -call(BOWS, above, x, depth);
                case 40: return call(RINGS, above, x / 2, depth);
                case 50: return call(HAILS, above, x, depth) * 3;
                case 51: return call(RINGS, above, x, depth) ^ k;
                case 60: return call(BOWS, above, x + 1, depth);
                case 70: return 9;
                case 71: return call(BOWS, above, x, depth) + m;
                default: return 0;
            }
        }

        private int part(int x) {
            if (m == k) {
                parted = true;
                return 0;
            }
            return x / (m - k);
        }
    }

    /** A row of numbers of so many bits, or missing. */
    private static final class Sheet {
        int bits;
        int length;
        final int[] numbers = new int[MOST_NUMBERS];

        boolean isMissing() {
            return bits == 0;
        }

        void lay(int wide, int n) {
            bits = wide;
            length = n;
            for (int i = 0; i < n; i++) {
                numbers[i] = 0;
            }
        }

        void write(int i, int v) {
            numbers[i] = bits == 8 ? (byte) v : bits == 16 ? (short) v : v;
        }

        /** Whether n numbers stand there from number i on. */
        boolean holds(int i, int n) {
            return i >= 0 && n >= 0 && i <= length - n;
        }
    }
}
