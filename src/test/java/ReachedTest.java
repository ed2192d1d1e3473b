/** REACHED, and which NUMBERS a call may name. */
public final class ReachedTest {
    private static final String[] POLICIES = {
        "sweep 200 first", "slide 200", "halves 100", "ages 60 80 2 4", "counts 200 best", "steps 200 next 1 picture",
        "steps 200 next 1 news", "regions 200 50 50"
    };

    public static void main(String[] args) {
        Runs runs = new Runs();
        for (String policy : POLICIES) {
            String heap = "policy " + policy + " = 200\n";
            byRoots(runs, heap);
            byReferences(runs, heap);
            byWishes(runs, heap);
            notReached(runs, heap);
            if (!policy.startsWith("halves") && !policy.startsWith("ages")) {
                byHolds(runs, heap);
            }
        }
        longChain(runs);
        runs.finish();
    }

    private static void byRoots(Runs runs, String heap) {
        runs.run("what a ROOT leads to", Runs.KINDS, heap, """
            about 0 1 = !NoSuchElementException; make 0 15 = 0; about 0 1 = 3; make 0 0 = 1; about 1 1 = 3
            about 2 1 = !NoSuchElementException; root 15 -1 = 0; about 0 1 = !NoSuchElementException; about 1 1 = 3
            """);
    }

    private static void byReferences(Runs runs, String heap) {
        runs.run("what its REFERENCES lead to, from the first to the last word", Runs.KINDS, heap, """
            row true 40 0 = 0; make 0 1 = 1; make 0 2 = 2; make 2 3 = 3
            link 0 0 1 = -1; link 0 39 2 = -1; link 2 1 3 = -1; root 1 -1 = 1; root 2 -1 = 2; root 3 -1 = 3
            about 1 1 = 3; about 2 1 = 3; about 3 1 = 1
            link 3 0 3 = !IndexOutOfBoundsException
            link 1 0 3 = -1; link 2 1 -1 = 3; about 3 1 = 1; link 0 0 -1 = 1
            about 1 1 = !NoSuchElementException; about 3 1 = !NoSuchElementException; about 2 1 = 3
            """);
    }

    private static void byWishes(Runs runs, String heap) {
        runs.run("what WISHES lead to", Runs.KINDS, heap, """
            make 0 0 = 0; make 0 1 = 1; link 0 1 1 = -1; root 1 -1 = 1; wish 0 = 1; root 0 -1 = 0; clean = 0
            about 0 1 = 3; about 1 1 = 3; link 1 0 0 = -1; root 9 1 = -1; granted 9 = 0; about 1 1 = 3
            root 9 -1 = 0; about 0 1 = !NoSuchElementException; about 1 1 = !NoSuchElementException
            """);
    }

    private static void byHolds(Runs runs, String heap) {
        runs.run("what HOLDS above 0 lead to", Runs.KINDS, heap, """
            make 0 0 = 0; make 0 1 = 1; link 0 1 1 = -1; root 1 -1 = 1; hold 0 true = 1; hold 0 true = 2; root 0 -1 = 0
            about 0 1 = 3; about 1 1 = 3; hold 0 false = 1; about 1 1 = 3; link 1 1 0 = -1; hold 0 false = 0
            about 0 1 = !NoSuchElementException; about 1 1 = !NoSuchElementException
            """);
    }

    private static void notReached(Runs runs, String heap) {
        runs.run("not by WEAK, nor by an int", Runs.KINDS, heap, """
            make 1 0 = 0; make 2 1 = 1; make 2 2 = 2; put 0 1 1 = 0; put 0 2 2 = 0; weak 1 1 = -1
            root 1 -1 = 1; root 2 -1 = 2; about 1 1 = !NoSuchElementException; about 2 1 = !NoSuchElementException
            """);
        runs.run("not by one that is not REACHED, nor by itself", Runs.KINDS, heap, """
            make 0 0 = 0; make 0 1 = 1; link 0 0 1 = -1; link 1 0 0 = -1; link 1 1 1 = -1; root 0 -1 = 0; about 0 1 = 3
            root 1 -1 = 1; about 0 1 = !NoSuchElementException; about 1 1 = !NoSuchElementException
            root 0 1 = !NoSuchElementException; weak 0 1 = !NoSuchElementException
            make 0 2 = 2; link 2 0 1 = !NoSuchElementException; link 1 0 2 = !NoSuchElementException
            """);
        runs.run("a wish alone leads to nothing", Runs.KINDS, heap, """
            make 0 0 = 0; link 0 0 0 = -1; wish 0 = 1; root 0 -1 = 0; about 0 7 = !NoSuchElementException; clean = 0
            about 0 7 = 0
            """);
    }

    private static void longChain(Runs runs) {
        StringBuilder chain = new StringBuilder("kind 1 1 = 0; policy slide 1500 = 1500; make 0 0 = 0\n");
        for (int n = 1; n < 240; n++) {
            chain.append("make 0 ").append(n % 2).append(" = ").append(n).append("; link ").append(n).append(" 0 ")
                .append(n - 1).append(" = -1\n");
        }
        runs.run("by a long chain", chain.toString(), """
            root 0 -1 = 238; about 0 1 = 2; clean = 0; link 120 0 -1 = 119; about 119 1 = !NoSuchElementException
            about 120 1 = 2; clean = 240; count 2 = 120
            """);
    }
}
