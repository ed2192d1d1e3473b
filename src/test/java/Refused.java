import java.util.ArrayList;
import java.util.List;

/**
 * Refused calls: each throws what is due, in heaps of every policy, and nothing has changed behind it. For that a house
 * that refused a call and a house that did not get it are told out and played on: they must answer the same.
 */
final class Refused {
    static final String[] POLICIES = {
        "sweep 60 next", "slide 60", "halves 60", "ages 40 60 2 4", "counts 60 worst", "steps 60 first 1 picture",
        "steps 60 best 1 news", "regions 120 24 40"
    };

    // 3 is held, and by ages it is old and has a dirty card; 4 is not reached (by counts it is gone), 5 is in the row of
    // wishes, 8 is reached by 6 alone, 10 was never made; steps are marking, with one step done; there is a text on the
    // tape.
    private static final String[] SETUP = {
        "make 0 0", "make 1 1", "make 2 2", "row true 20 3", "make 0 4", "make 0 5", "wish 5", "root 5 -1", "clean",
        "link 0 0 1", "put 1 1 77", "weak 0 1", "weak 1 4", "wish 1", "hold 3 true", "root 4 -1", "make 3 6",
        "make 2 7", "make 2 8", "link 6 0 8", "root 8 -1", "link 3 7 6", "make 0 9",
        "feed 1936484708 1696609075 0 0 0", "end 8"
    };
    private static final int LAST_NUMBER = 9;

    private Refused() {
    }

    /** Each call stands with what is due: "put 4 0 9 = !NoSuchElementException". */
    static void everywhere(Runs runs, String... calls) {
        for (String policy : POLICIES) {
            in(runs, policy, calls);
        }
    }

    static void in(Runs runs, String policy, String... calls) {
        checkSetUp(runs, policy);
        String before = told(setUp(policy));
        for (String due : calls) {
            String call = due.substring(0, due.indexOf(" = "));
            CollectorHouse house = setUp(policy);
            runs.expect(policy + ": " + call, Runs.answer(house, call), due.substring(due.indexOf(" = ") + 3));
            runs.expect(policy + ": what is told behind " + call, told(house), before);
        }
    }

    /** Calls on a house that has four kinds, but no heap. */
    static void withoutHeap(Runs runs, String... calls) {
        for (String due : calls) {
            runs.run("there is no heap", Runs.KINDS, due, """

                count 0 = 0; count 1 = 4; count 2 = !IllegalStateException
                policy slide 16 = 16; count 4 = 0; root 0 -1 = -1; weak 0 -1 = -1; granted 0 = -1
                """);
        }
    }

    static CollectorHouse setUp(String policy) {
        CollectorHouse house = withKinds();
        beginHeap(house, policy);
        return house;
    }

    static CollectorHouse withKinds() {
        CollectorHouse house = new CollectorHouse();
        house.kind(2, 3);
        house.kind(3, 1);
        house.kind(0, 0);
        house.kind(8, 255);
        return house;
    }

    /** Answers what the house counts when the heap is new. */
    static String beginHeap(CollectorHouse house, String policy) {
        Runs.feed(house, policy);
        house.heap();
        List<String> all = new ArrayList<>();
        counts(all, house);
        for (String call : SETUP) {
            Runs.answer(house, call);
        }
        return String.join("; ", all);
    }

    /** A house in which less is going on would hide changes. */
    private static void checkSetUp(Runs runs, String policy) {
        CollectorHouse house = setUp(policy);
        runs.expect(policy + ": objects made", Runs.answer(house, "count 4"), String.valueOf(LAST_NUMBER + 1));
        runs.expect(policy + ": wishes", Runs.answer(house, "count 9"), "1");
        runs.expect(policy + ": bytes", Runs.answer(house, "count 0"), "8");
        runs.expect(policy + ": marking", Runs.answer(house, "count 12"), policy.startsWith("steps") ? "1" : "0");
        runs.expect(policy + ": held", Runs.answer(house, "about 3 6"), policy.startsWith("halves") ? "0" : "1");
        runs.expect(policy + ": not reached", Runs.answer(house, "about 4 0"), "!NoSuchElementException");
        if (policy.startsWith("ages")) {
            runs.expect(policy + ": dirty cards", Runs.answer(house, "count 10"), "1");
        }
    }

    /** Everything that a house tells, then what it answers to calls that change it; some 230 calls. */
    static String told(CollectorHouse house) {
        List<String> all = new ArrayList<>();
        counts(all, house);
        for (int n = 0; n <= LAST_NUMBER + 1; n++) {
            for (int what = 0; what < 8; what++) {
                tell(all, house, "about " + n + " " + what);
            }
            for (int i = 0; i < 4; i++) {
                tell(all, house, "get " + n + " " + i);
            }
        }
        for (int i = 0; i < 3; i++) {
            tell(all, house, "block " + i + " 0");
            tell(all, house, "block " + i + " 1");
        }
        tell(all, house, "step 2");
        tell(all, house, "make 1 10");
        counts(all, house);
        tell(all, house, "strong 1 11");
        tell(all, house, "clean");
        counts(all, house);
        for (int n = 0; n <= LAST_NUMBER + 1; n++) {
            tell(all, house, "about " + n + " 0");
        }
        for (int i = 0; i < 16; i++) {
            tell(all, house, "weak " + i + " -1");
            tell(all, house, "root " + i + " -1");
        }
        tell(all, house, "granted 0");
        tell(all, house, "granted 0");
        tell(all, house, "kind 4 5");
        tell(all, house, "heap");
        return String.join("; ", all);
    }

    private static void counts(List<String> all, CollectorHouse house) {
        for (int what = 0; what < 14; what++) {
            tell(all, house, "count " + what);
        }
    }

    private static void tell(List<String> all, CollectorHouse house, String call) {
        all.add(call + " = " + Runs.answer(house, call));
    }
}
