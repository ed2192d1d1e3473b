import java.util.ArrayDeque;
import java.util.ArrayList;
import java.util.Arrays;
import java.util.Deque;
import java.util.List;
import java.util.Set;
import java.util.TreeSet;

/**
 * Long runs of calls on every policy: whatever is cleaned and moved, what is reached keeps its words, no two objects
 * share a place, and nothing is thrown that the document does not name.
 */
public final class GraphTest {
    private static final String[] POLICIES = {
        "sweep 60 first", "sweep 70 next", "sweep 50 best", "sweep 80 worst", "slide 60", "halves 60", "ages 24 50 1 4",
        "ages 30 60 2 8", "ages 40 40 3 64", "ages 1500 1500 7 5", "counts 60 first", "counts 50 next",
        "steps 60 first 1 picture", "steps 60 next 2 news", "steps 48 best 50 news", "steps 70 worst 3 picture",
        "regions 96 16 40", "regions 100 24 100", "regions 80 20 0", "regions 1500 16 60"
    };
    private static final int[][] KINDS = {{2, 3}, {3, 1}, {0, 0}, {5, 21}};
    private static final List<String> NAMED = List.of("IllegalArgumentException", "IllegalStateException",
        "NoSuchElementException", "IndexOutOfBoundsException", "ClassCastException", "UnsupportedOperationException");

    private final Runs runs;
    private final String name;
    private final CollectorHouse house = new CollectorHouse();
    private final List<int[]> words = new ArrayList<>();
    private final List<boolean[]> references = new ArrayList<>();
    private final List<Integer> holds = new ArrayList<>();
    private final int[] roots = new int[16];
    private final int total;
    private long seed;

    private GraphTest(Runs runs, String policy, long seed) {
        this.runs = runs;
        this.name = policy + ", seed " + seed;
        this.seed = seed;
        Arrays.fill(roots, -1);
        for (int[] kind : KINDS) {
            house.kind(kind[0], kind[1]);
        }
        Runs.feed(house, policy);
        total = house.heap();
    }

    public static void main(String[] args) {
        Runs runs = new Runs();
        for (String policy : POLICIES) {
            for (long seed = 1; seed <= 6; seed++) {
                new GraphTest(runs, policy, seed).play();
            }
        }
        tooManyCalls(runs);
        runs.finish();
    }

    /** What is answered behind the 512th call is free, but the machine does not throw. */
    private static void tooManyCalls(Runs runs) {
        for (String policy : POLICIES) {
            GraphTest test = new GraphTest(runs, policy, 0);
            for (int i = 0; i < 1200; i++) {
                test.call("row true 0 " + i % 16);
                test.call("wish " + i);
            }
            test.call("clean");
        }
    }

    private void play() {
        for (int i = 0; i < 300; i++) {
            change();
            if (i % 10 == 9) {
                lookAtAll();
            }
        }
    }

    private int below(int n) {
        seed = seed * 6364136223846793005L + 1442695040888963407L;
        return (int) ((seed >>> 33) % n);
    }

    private void change() {
        switch (below(14)) {
            case 0: case 1: case 2: case 3: add(); break;
            case 4: case 5: case 6: changeLink(); break;
            case 7: changeInt(); break;
            case 8: changeRoot(below(16), below(2) == 0 ? -1 : someReached()); break;
            case 9: call("weak " + below(16) + " " + someReached()); break;
            case 10: takeRoot(below(2) == 0 ? "strong " + below(16) : "granted"); break;
            case 11: changeHolds(); break;
            case 12: call("wish " + someReached()); break;
            default: call(below(2) == 0 ? "step " + below(4) : below(3) == 0 ? "clean" : "count " + below(14)); break;
        }
    }

    /** The answer; a name as text when it threw one that the document names. */
    private String call(String what) {
        String got = Runs.answer(house, what);
        if (got.startsWith("!") && !NAMED.contains(got.substring(1))) {
            runs.expect(name + ": " + what, got, "an exception that the document names");
        }
        return got;
    }

    private void add() {
        int root = below(8);
        int kind = below(6);
        int n = below(9);
        boolean[] refers = new boolean[kind < 4 ? KINDS[kind][0] : n];
        for (int i = 0; i < refers.length; i++) {
            refers[i] = kind < 4 ? (KINDS[kind][1] >> i & 1) == 1 : kind == 4;
        }
        String got = call(kind < 4 ? "make " + kind + " " + root : "row " + (kind == 4) + " " + n + " " + root);
        if (got.equals("-1")) {
            return;
        }
        runs.expect(name + ": the number of a new one", got, String.valueOf(words.size()));
        int[] at = new int[refers.length];
        for (int i = 0; i < at.length; i++) {
            at[i] = refers[i] ? -1 : 0;
        }
        words.add(at);
        references.add(refers);
        holds.add(0);
        roots[root] = words.size() - 1;
    }

    private void changeLink() {
        int object = someReached();
        int to = below(6) == 0 ? -1 : someReached();
        int i = below(4);
        String got = call("link " + object + " " + i + " " + to);
        if (!got.startsWith("!")) {
            runs.expect(name + ": what a link was", got, String.valueOf(words.get(object)[i]));
            words.get(object)[i] = to;
        }
    }

    private void changeInt() {
        int object = someReached();
        int i = below(4);
        int v = below(1000) - 500;
        String got = call("put " + object + " " + i + " " + v);
        if (!got.startsWith("!")) {
            runs.expect(name + ": what a word was", got, String.valueOf(words.get(object)[i]));
            words.get(object)[i] = v;
        }
    }

    private void changeRoot(int i, int object) {
        String got = call("root " + i + " " + object);
        if (!got.startsWith("!")) {
            runs.expect(name + ": what a root was", got, String.valueOf(roots[i]));
            roots[i] = object;
        }
    }

    private void takeRoot(String from) {
        int root = below(8);
        String got = call(from + " " + root);
        if (!got.startsWith("!") && !got.equals("-1")) {
            roots[root] = Integer.parseInt(got);
        }
    }

    private void changeHolds() {
        int object = someReached();
        String got = call("hold " + object + " " + (below(2) == 0));
        if (!got.startsWith("!")) {
            holds.set(object, Integer.parseInt(got));
        }
    }

    private int someReached() {
        List<Integer> all = new ArrayList<>(reached());
        return all.isEmpty() || below(20) == 0 ? below(words.size() + 2) - 1 : all.get(below(all.size()));
    }

    private Set<Integer> reached() {
        Set<Integer> seen = new TreeSet<>();
        Deque<Integer> open = new ArrayDeque<>();
        for (int root : roots) {
            open.add(root);
        }
        for (int n = 0; n < holds.size(); n++) {
            if (holds.get(n) > 0) {
                open.add(n);
            }
        }
        while (!open.isEmpty()) {
            int n = open.remove();
            if (n >= 0 && seen.add(n)) {
                for (int i = 0; i < words.get(n).length; i++) {
                    if (references.get(n)[i]) {
                        open.add(words.get(n)[i]);
                    }
                }
            }
        }
        return seen;
    }

    private void lookAtAll() {
        boolean[] taken = new boolean[total];
        for (int n : reached()) {
            int place = house.about(n, 0);
            int size = house.about(n, 1);
            runs.expect(name + ": size of " + n, String.valueOf(size), String.valueOf(words.get(n).length + 1));
            for (int at = place; at < place + size; at++) {
                if (at < 0 || at >= total || taken[at]) {
                    runs.expect(name + ": place of " + n, String.valueOf(place), "a place of its own");
                    break;
                }
                taken[at] = true;
            }
            for (int i = 0; i < size - 1; i++) {
                runs.expect(name + ": word " + i + " of " + n, String.valueOf(house.get(n, i)),
                    String.valueOf(words.get(n)[i]));
            }
        }
    }
}
