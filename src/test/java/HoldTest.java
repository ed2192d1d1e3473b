/** Promise 14: hold. */
public final class HoldTest {
    private static final String[] POLICIES = {
        "sweep 40 next", "slide 40", "counts 40 best", "steps 40 first 1 picture", "steps 40 worst 9 news",
        "regions 80 20 50"
    };

    public static void main(String[] args) {
        Runs runs = new Runs();
        for (String policy : POLICIES) {
            String heap = "policy " + policy + " = " + (policy.startsWith("regions") ? 80 : 40) + "\n";
            runs.run("once more, once less; answers how often", Runs.KINDS, heap, """
                make 0 0 = 0; hold 0 true = 1; hold 0 true = 2; hold 0 true = 3; about 0 6 = 3
                hold 0 false = 2; hold 0 false = 1; hold 0 true = 2; hold 0 false = 1; hold 0 false = 0; about 0 6 = 0
                """);
            runs.run("it is not held", Runs.KINDS, heap, """
                make 0 0 = 0; hold 0 false = !UnsupportedOperationException; about 0 6 = 0
                hold 0 true = 1; hold 0 false = 0; hold 0 false = !UnsupportedOperationException; about 0 6 = 0
                """);
            runs.run("HOLDS above 0 lead to it", Runs.KINDS, heap, """
                make 0 0 = 0; make 0 1 = 1; link 0 0 1 = -1; hold 0 true = 1; hold 0 true = 2; root 0 -1 = 0; root 1 -1 = 1
                clean = 0; about 0 6 = 2; about 1 6 = 0; hold 0 false = 1; clean = 0; get 0 0 = 1
                hold 0 false = 0; hold 0 false = !NoSuchElementException; hold 0 true = !NoSuchElementException
                about 1 6 = !NoSuchElementException
                """);
        }
        halves(runs);
        ages(runs);
        often(runs);
        Refused.withoutHeap(runs, "hold 0 true = !IllegalStateException", "hold -1 false = !IllegalStateException");
        Refused.everywhere(runs, "hold 4 true = !NoSuchElementException", "hold 4 false = !NoSuchElementException",
            "hold 10 true = !NoSuchElementException", "hold -1 true = !NoSuchElementException",
            "hold -2 false = !NoSuchElementException", "hold 0 false = !UnsupportedOperationException",
            "hold 5 false = !UnsupportedOperationException");
        Refused.in(runs, "halves 60", "hold 0 true = !UnsupportedOperationException",
            "hold 3 true = !UnsupportedOperationException", "hold 5 true = !UnsupportedOperationException");
        Refused.in(runs, "ages 40 60 2 4", "hold 0 true = !UnsupportedOperationException",
            "hold 9 true = !UnsupportedOperationException");
        runs.finish();
    }

    private static void halves(Runs runs) {
        runs.run("halves: it can not be held", Runs.KINDS, """
            policy halves 16 = 32; hold 0 true = !NoSuchElementException; make 0 0 = 0; about 0 6 = 0
            hold 0 true = !UnsupportedOperationException; hold 0 false = !UnsupportedOperationException; about 0 6 = 0
            make 0 1 = 1; root 1 -1 = 1; hold 1 true = !NoSuchElementException; clean = 3
            hold 0 true = !UnsupportedOperationException
            """);
    }

    private static void ages(Runs runs) {
        runs.run("ages: not of YOUNG ones", Runs.KINDS, """
            policy ages 16 30 2 4 = 62; make 0 0 = 0; row true 8 1 = 1
            hold 0 true = !UnsupportedOperationException; hold 0 false = !UnsupportedOperationException; about 0 6 = 0
            hold 1 false = !UnsupportedOperationException; hold 1 true = 1; hold 1 true = 2; hold 1 false = 1
            clean = 0; about 0 3 = 1; hold 0 true = !UnsupportedOperationException     # in the other half
            clean = 0; about 0 0 = 9; hold 0 true = 1                                  # OLD now
            root 0 -1 = 0; root 1 -1 = 1; clean = 0; count 2 = 2; hold 0 false = 0; hold 0 true = !NoSuchElementException
            clean = 3; hold 1 false = 0; clean = 9; count 2 = 0
            """);
    }

    private static void often(Runs runs) {
        StringBuilder all = new StringBuilder();
        for (int times = 1; times <= 500; times++) {
            all.append("hold 0 true = ").append(times).append('\n');
        }
        runs.run("as often as may be", Runs.KINDS, "policy slide 16 = 16; make 2 0 = 0\n", all.toString(), "hold 0 false = 499");
    }
}
