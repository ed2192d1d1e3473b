import java.util.ArrayList;
import java.util.List;
import java.util.Random;

/**
 * Runs of any calls, up to the 512th, with heaps of all policies that follow each other: each answer is the one that
 * the second house gives.
 */
public final class SecondTest {
    private static final int RUNS = 700;
    private static final int CALLS = 512;
    private static final String[] FORMS = {"first", "next", "best", "worst"};
    // How often each call comes.
    private static final String[] OFTEN = {
        "make", "make", "make", "make", "make", "make", "make", "make", "row", "row", "row", "row", "link", "link", "link",
        "link", "link", "link", "link", "link", "root", "root", "root", "root", "root", "root", "weak", "weak", "weak",
        "strong", "strong", "hold", "hold", "hold", "wish", "wish", "wish", "granted", "granted", "clean", "step", "step",
        "step", "about", "about", "about", "about", "about", "get", "get", "put", "put", "block", "block", "count",
        "count", "count", "count", "count"
    };

    private final Runs runs;
    private final Random random;
    private final CollectorHouse house = new CollectorHouse();
    private final SecondHouse second = new SecondHouse();
    private final List<String> played = new ArrayList<>();
    private final int slots;
    private boolean differs;

    private SecondTest(Runs runs, int seed) {
        this.runs = runs;
        random = new Random(seed);
        slots = pick(3, 5, 8, 16);
    }

    public static void main(String[] args) {
        Runs runs = new Runs();
        int first = args.length > 0 ? Integer.parseInt(args[0]) : 0;
        int end = args.length > 1 ? Integer.parseInt(args[1]) : RUNS;
        for (int seed = first; seed < end; seed++) {
            runs.run("run " + seed);
            new SecondTest(runs, seed).play();
        }
        runs.finish();
    }

    private void play() {
        for (String kind : new String[] {"kind 2 3", "kind 3 1", "kind 0 0", "kind 8 255"}) {
            due(kind);
        }
        newHeap(policy());
        int changes = pick(0, 0, 1, 5);
        while (!differs && played.size() < CALLS) {
            if (random.nextInt(1000) < changes) {
                newHeap(random.nextInt(3) == 0 ? broken() : policy());
            } else if (random.nextInt(150) == 0) {
                odd();
            } else {
                due(call(OFTEN[random.nextInt(OFTEN.length)]));
            }
            if (random.nextInt(40) == 0) {
                lookAround();
            }
        }
    }

    /** A run is played no further when an answer differs, and told up to there. */
    private void due(String call) {
        if (differs || played.size() >= CALLS) {
            return;
        }
        played.add(call);
        String got = Runs.answer(house, call);
        String want = second.answer(call);
        if (!got.equals(want)) {
            differs = true;
            runs.expect(String.join("; ", played), got, want);
        }
    }

    private void newHeap(String text) {
        due("end 0");
        for (int from = 0; from < text.length(); from += 20) {
            StringBuilder call = new StringBuilder("feed");
            for (int i = from; i < from + 20; i += 4) {
                int four = 0;
                for (int k = i; k < i + 4; k++) {
                    four = four << 8 | (k < text.length() ? text.charAt(k) : 0);
                }
                call.append(' ').append(four);
            }
            due(call.toString());
        }
        due("end " + text.length());
        due("heap");
    }

    private String policy() {
        String form = FORMS[random.nextInt(FORMS.length)];
        int room = pick(16, 20, 30, 40, 60, 90, 150, 16 + random.nextInt(1485));
        int size = pick(16, 17, 20, 24, 32);
        switch (random.nextInt(7)) {
            case 0: return "sweep " + room + " " + form;
            case 1: return "slide " + room;
            case 2: return "halves " + room;
            case 3: return "ages " + pick(16, 17, 20, 25, 40, 60) + " " + pick(16, 24, 30, 50, 80, 120) + " "
                + pick(1, 1, 2, 2, 3, 7) + " " + pick(4, 5, 6, 8, 13, 64);
            case 4: return "counts " + room + " " + form;
            case 5: return "steps " + room + " " + form + " " + pick(1, 1, 2, 3, 50)
                + (random.nextBoolean() ? " news" : " picture");
            default: return "regions " + (size * pick(4, 4, 5, 6, 8) + random.nextInt(size)) + " " + size + " "
                + pick(0, 10, 25, 40, 50, 60, 75, 100);
        }
    }

    /** Most of these are BROKEN. */
    private String broken() {
        StringBuilder text = new StringBuilder(policy());
        int at = random.nextInt(text.length());
        switch (random.nextInt(5)) {
            case 0: text.deleteCharAt(at); break;
            case 1: text.insert(at, (char) pick(0, 32, 32, 48, 57, 97, 200, 255)); break;
            case 2: text.setCharAt(at, (char) pick(0, 32, 48, 49, 57, 122, 160)); break;
            case 3: text.append(random.nextBoolean() ? " 7" : "  "); break;
            default: text.setLength(at); break;
        }
        return text.toString();
    }

    private String call(String name) {
        int object = object();
        switch (name) {
            case "make": return "make " + usual(random.nextInt(4), -1, second.kindsTold(), 16) + " " + slot();
            case "row": return "row " + random.nextBoolean() + " " + pick(0, 1, 2, 3, 5, 8, 10, 14, 15, 16, 20, 60) + " "
                + slot();
            case "link": return "link " + object + " " + word(object, true) + " "
                + (random.nextInt(4) == 0 ? -1 : object());
            case "root": return "root " + slot() + " " + (random.nextInt(9) < 4 ? -1 : object);
            case "weak": return "weak " + slot() + " " + (random.nextInt(10) == 0 ? -1 : object);
            case "strong": return "strong " + slot() + " " + slot();
            case "hold": return "hold " + object + " " + (random.nextInt(9) < 4);
            case "wish": return "wish " + object;
            case "granted": return "granted " + slot();
            case "step": return "step " + usual(pick(0, 0, 1, 1, 2, 3, 5, 1000), -1, 1001);
            case "about": return "about " + object + " " + usual(random.nextInt(8), -1, 8);
            case "get": return "get " + object + " " + word(object, random.nextBoolean());
            case "put": return "put " + object + " " + word(object, false) + " " + random.nextInt();
            case "block": return "block " + (random.nextInt(6) - 1) + " " + usual(random.nextInt(2), -1, 2);
            case "count": return "count " + usual(random.nextInt(14), -1, 14);
            default: return name;
        }
    }

    /** A new kind, the tape, and numbers out of range. */
    private void odd() {
        switch (random.nextInt(5)) {
            case 0: due("kind " + (random.nextInt(11) - 1) + " " + (random.nextInt(20) - 1)); break;
            case 1: due("feed " + random.nextInt() + " 0 -1 " + random.nextInt() + " 1"); break;
            case 2: due("end " + pick(-1, 0, 5, 20, 100)); break;
            case 3: due("row true " + pick(-1, 61) + " 0"); break;
            default: due("heap"); break;
        }
    }

    private void lookAround() {
        for (int what = 0; what < 14; what++) {
            due("count " + what);
        }
        List<Integer> reached = second.reached();
        for (int number : reached.subList(Math.max(0, reached.size() - 3), reached.size())) {
            due("about " + number + " 0");
            due("about " + number + " " + pick(3, 4, 5));
        }
    }

    private int pick(int... values) {
        return values[random.nextInt(values.length)];
    }

    private int usual(int value, int... others) {
        return random.nextInt(50) == 0 ? pick(others) : value;
    }

    private int slot() {
        return usual(random.nextInt(slots), -1, 15, 16);
    }

    private int object() {
        List<Integer> reached = second.reached();
        if (reached.isEmpty() || random.nextInt(30) == 0) {
            return pick(-2, -1, 0, 1, 2, 5, 9, 20, 511, 512, Integer.MAX_VALUE, Integer.MIN_VALUE);
        }
        int last = random.nextBoolean() ? Math.max(0, reached.size() - 4) : 0;
        return reached.get(last + random.nextInt(reached.size() - last));
    }

    /** Most times a word of that kind, if there is one. */
    private int word(int object, boolean reference) {
        boolean[] refers = second.wordsOf(object);
        for (int turn = 0; turn < 10 && refers.length > 0; turn++) {
            int i = random.nextInt(refers.length);
            if (refers[i] == reference) {
                return i;
            }
        }
        return pick(-1, 0, refers.length - 1, refers.length);
    }
}
