import java.lang.reflect.InvocationTargetException;
import java.lang.reflect.Method;
import java.util.ArrayList;
import java.util.HashMap;
import java.util.List;
import java.util.Map;
import java.util.Random;

/** Runs of drawn calls: HandTown must answer each of them as PlainTown does. */
public final class RunsTest {
    private static final int RUNS = 500;
    private static final int CALLS = 512;
    private static final String[] ACTS = {
        "hand", "handIs", "frost", "home", "homeIs", "homeIs", "person", "personIs", "personIs", "become", "as", "jump",
        "jump", "write", "write", "feed", "text", "untell", "law", "law", "minutes", "loose", "loose", "seed", "markAt",
        "meet", "council", "soonest", "soonest", "rooms", "rooms", "watch", "watch", "watch", "best", "best", "odds",
        "odds", "fits", "voice", "voice", "voice", "body", "body", "sheet", "put", "put", "put", "move", "offsets",
        "judge", "image", "restore", "tell", "check", "count", "told", "tellMarks", "putMarks", "putRooms",
    };
    private static final Map<String, Method> FACE = new HashMap<>();
    private static final Map<String, Method> PLAIN = new HashMap<>();

    private final Random random;
    private final int run;
    private final HandTown town = new HandTown();
    private final PlainTown plain = new PlainTown();
    private final List<String> calls = new ArrayList<>();
    private boolean wrong;

    private RunsTest(int run) {
        this.run = run;
        random = new Random(run);
    }

    public static void main(String[] args) throws Exception {
        for (Method method : PlainTown.class.getDeclaredMethods()) {
            if (java.lang.reflect.Modifier.isPublic(method.getModifiers())) {
                PLAIN.put(method.getName(), method);
                FACE.put(method.getName(), HandTown.class.getMethod(method.getName(), method.getParameterTypes()));
            }
        }
        int wrongRuns = 0;
        long answers = 0;
        for (int run = 0; run < RUNS; run++) {
            RunsTest test = new RunsTest(run);
            test.play();
            answers += test.calls.size();
            wrongRuns += test.wrong ? 1 : 0;
        }
        System.out.println("RunsTest: " + answers + " answers in " + RUNS + " runs, " + wrongRuns + " runs wrong");
        if (wrongRuns > 0) {
            System.exit(1);
        }
    }

    private void play() throws Exception {
        if (random.nextInt(8) > 0) {
            settle();
        }
        while (calls.size() < CALLS && !wrong) {
            act(ACTS[random.nextInt(ACTS.length)]);
        }
    }

    /** Most runs begin with a town in which something can happen. */
    private void settle() throws Exception {
        for (int hand = 1 + random.nextInt(4); hand > 0; hand--) {
            ask("hand", turn(), random.nextInt(1440));
        }
        for (int home = 1 + random.nextInt(8); home > 0; home--) {
            ask("home", random.nextInt(4), random.nextInt(random.nextBoolean() ? 3 : 10));
        }
        for (int person = random.nextInt(7); person > 0; person--) {
            ask("person", random.nextInt(70), random.nextInt(4));
        }
    }

    private int turn() {
        int[] turns = {1 + random.nextInt(1440), 1 + random.nextInt(60), 1 + random.nextInt(12), 60, 12, 720, 1440, 1};
        return turns[random.nextInt(turns.length)];
    }

    /** From least to most; now and then just outside, or far away. */
    private int from(int least, int most) {
        int dice = random.nextInt(100);
        if (dice < 2) {
            return least - 1;
        }
        if (dice < 4) {
            return most + 1;
        }
        if (dice < 5) {
            return Dues.WILD[random.nextInt(Dues.WILD.length)];
        }
        if (dice < 10) {
            return random.nextBoolean() ? least : most;
        }
        return least + random.nextInt(most - least + 1);
    }

    private int any() {
        int dice = random.nextInt(10);
        return dice == 0 ? Dues.WILD[random.nextInt(Dues.WILD.length)]
            : dice < 3 ? random.nextInt() : random.nextInt(200) - 70;
    }

    private int one(int count) {
        return from(0, Math.max(0, count - 1));
    }

    private int aHand() {
        return one(plain.count(0));
    }

    private int aHome() {
        return one(plain.count(1));
    }

    private int aPerson() {
        return one(plain.count(2));
    }

    private int aSheet() {
        return from(0, 3);
    }

    private void act(String act) throws Exception {
        switch (act) {
            case "hand": ask(act, random.nextInt(20) == 0 ? from(1, 1440) : turn(), from(0, 1439)); break;
            case "handIs": ask(act, aHand(), from(0, 3)); break;
            case "frost": ask(act, aHand(), from(1, 99)); break;
            case "home": ask(act, aHand(), from(0, 9)); break;
            case "homeIs": ask(act, aHome(), from(0, 4)); break;
            case "person": ask(act, from(0, 69), aHome()); break;
            case "personIs": ask(act, aPerson(), from(0, 5)); break;
            case "become": ask(act, aPerson(), from(0, 69)); break;
            case "as": ask(act, aPerson(), from(0, 6)); break;
            case "jump": ask(act, aPerson(), aHome()); break;
            case "write": write(); break;
            case "feed": ask(act, random.nextLong(), from(1, 8)); break;
            case "text": ask(act, from(0, 1)); break;
            case "untell": ask(act, from(0, 1)); break;
            case "law": ask(act, from(0, 1), any(), any(), any()); break;
            case "minutes": ask(act, random.nextInt(3) == 0 ? from(1, 720) : from(1, 20)); break;
            case "loose": ask(act, from(1, 40)); break;
            case "seed": ask(act, any()); break;
            case "markAt": ask(act, aHand(), from(0, 9999)); break;
            case "meet": ask(act, aHand(), aHand()); break;
            case "council": ask(act); break;
            case "soonest": ask(act, aPerson(), aHome()); break;
            case "rooms": ask(act, aPerson(), random.nextBoolean() ? from(0, 720) : from(0, 30)); break;
            case "watch": ask(act, aPerson(), aHome(), from(1, 60), from(0, 1)); break;
            case "best": ask(act, aPerson(), from(0, 60), from(0, 1)); break;
            case "odds": ask(act, aPerson(), aHome(), from(0, 1)); break;
            case "voice": ask(act, aPerson(), from(0, 3), any()); break;
            case "body": ask(act, from(0, 6)); break;
            default: actOnSheetsAndRest(act); break;
        }
    }

    private void actOnSheetsAndRest(String act) throws Exception {
        switch (act) {
            case "sheet": ask(act, aSheet(), 8 * from(0, 4), from(0, 24)); break;
            case "put": ask(act, aSheet(), from(0, random.nextBoolean() ? 3 : 23), any()); break;
            case "move": ask(act, aSheet(), from(0, 6), aSheet(), from(0, 6), from(0, 8)); break;
            case "fits":
            case "offsets":
            case "judge": ask(act, aSheet()); break;
            case "tell": ask(act, from(0, 59)); break;
            case "image":
            case "restore":
            case "check": ask(act); break;
            case "count": ask(act, from(0, 7)); break;
            case "told": ask(act, from(1, 6)); break;
            case "tellMarks": tellMarks(); break;
            case "putMarks": putMarks(); break;
            case "putRooms": putRooms(); break;
            default: throw new IllegalStateException(act);
        }
    }

    /** Marks as they are, sometimes up to one that is not so. */
    private void tellMarks() throws Exception {
        ask("check");
        for (int hand = 0; hand < plain.count(0) && random.nextInt(6) > 0; hand++) {
            ask("tell", plain.handIs(hand, 2) + (random.nextInt(6) == 0 ? 1 : 0));
        }
        ask("check");
    }

    private void putMarks() throws Exception {
        int n = 1 + random.nextInt(4);
        int hand = random.nextInt(4);
        ask("sheet", 0, 8, n);
        for (int i = 0; i < n && hand < plain.count(0); i++) {
            ask("put", 0, i, plain.markAt(hand, i));
        }
        ask("fits", 0);
    }

    private void putRooms() throws Exception {
        int n = 1 + random.nextInt(7);
        ask("sheet", 1, 16, n);
        for (int person = 0; person < n && person < plain.count(2); person++) {
            ask("put", 1, person, random.nextInt(8) == 0 ? 1 : plain.personIs(person, 2));
        }
        ask("judge", 1);
    }

    /** Writes a text to the tape, mostly a right one, and reads it. */
    private void write() throws Exception {
        int use = random.nextInt(2);
        String text = sum(use == 0 ? "mth" : "rkn", random.nextInt(5), 0);
        if (random.nextInt(4) == 0) {
            int at = random.nextInt(text.length() + 1);
            String signs = "0123456789mthrkn|&<=>+-*/%!()()!! x";
            char c = random.nextInt(10) == 0 ? (char) random.nextInt(256) : signs.charAt(random.nextInt(signs.length()));
            int after = Math.min(text.length(), at + random.nextInt(3));
            text = text.substring(0, at) + c + text.substring(after);
        }
        for (int at = 0; at < text.length(); at += 8) {
            String piece = text.substring(at, Math.min(text.length(), at + 8));
            ask("feed", Dues.word(piece), piece.length());
        }
        ask("text", random.nextInt(12) == 0 ? 1 - use : use);
    }

    private String sum(String names, int size, int open) {
        int dice = size <= 0 ? random.nextInt(4) : 3 + random.nextInt(9);
        if (dice < 1) {
            return String.valueOf(random.nextInt(random.nextBoolean() ? 10 : 9999));
        }
        if (dice < 4) {
            return names.substring(dice % 3, dice % 3 + 1);
        }
        if (dice == 4 && open < 5) {
            return "!" + "!".repeat(random.nextInt(2)) + names.charAt(random.nextInt(3));
        }
        if (dice <= 6) {
            return "(" + sum(names, size - 1, open + 1) + ")";
        }
        String signs = "|&<=>+-*/%+-*/%";
        char sign = signs.charAt(random.nextInt(signs.length()));
        return sum(names, size - 1 - random.nextInt(2), open) + sign + sum(names, size - 1 - random.nextInt(2), open);
    }

    private void ask(String name, Object... arguments) throws Exception {
        if (wrong || calls.size() >= CALLS) {
            return;
        }
        calls.add(name + java.util.Arrays.toString(arguments));
        Object want = PLAIN.get(name).invoke(plain, arguments);
        Object got;
        try {
            got = FACE.get(name).invoke(town, arguments);
        } catch (InvocationTargetException e) {
            got = e.getCause();
        }
        if (!want.equals(got)) {
            wrong = true;
            System.out.println("run " + run + ", call " + calls.size() + ": answered " + got + ", due is " + want);
            System.out.println("  " + String.join(" ", calls));
        }
    }
}
