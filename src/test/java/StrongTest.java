/** Promise 13: strong. */
public final class StrongTest {
    // Policies in which one that is not reached is there up to a cleaning.
    private static final String[] POLICIES = {
        "sweep 40 next", "slide 40", "halves 20", "ages 16 20 2 4", "steps 40 first 1 picture", "steps 40 first 1 news",
        "regions 64 16 50"
    };

    public static void main(String[] args) {
        Runs runs = new Runs();
        for (String policy : POLICIES) {
            String heap = "policy " + policy + " = " + words(policy) + "\n";
            runs.run("it comes to ROOT root, also if it was not REACHED", Runs.KINDS, heap, """
                make 0 0 = 0; make 2 1 = 1; link 0 1 1 = -1; weak 0 0 = -1; weak 15 0 = -1; root 0 -1 = 0; root 1 -1 = 1
                about 0 1 = !NoSuchElementException
                strong 15 15 = 0; root 15 0 = 0; get 0 1 = 1; strong 0 0 = 0; root 15 -1 = 0; root 0 0 = 0; clean = 0
                strong 15 7 = 0; strong 0 7 = 0; root 7 0 = 0
                """);
            runs.run("NOTHING: ROOT stays", Runs.KINDS, heap, """
                make 0 0 = 0; make 0 1 = 1; strong 3 0 = -1; root 0 0 = 0
                weak 3 1 = -1; weak 3 -1 = 1; strong 3 0 = -1; root 0 0 = 0
                weak 3 1 = -1; root 1 -1 = 1; clean = 3; strong 3 0 = -1; root 0 0 = 0
                """);
            runs.run("WEAK stays as it is", Runs.KINDS, heap, """
                make 0 0 = 0; weak 3 0 = -1; strong 3 1 = 0; weak 3 0 = 0; strong 3 2 = 0; root 2 0 = 0
                """);
            runs.run("what the ROOT had is REACHED by it no more", Runs.KINDS, heap, """
                make 0 0 = 0; make 0 1 = 1; weak 3 0 = -1; strong 3 1 = 0; root 1 0 = 0; about 1 0 = !NoSuchElementException
                """);
        }
        runs.run("by counts", Runs.KINDS, """
            policy counts 40 first = 40; make 0 0 = 0; make 0 1 = 1; weak 0 0 = -1; weak 1 1 = -1
            strong 0 1 = 0; about 0 4 = 2; strong 1 2 = -1; count 2 = 1        # 1 is gone
            strong 0 1 = 0; about 0 4 = 2; root 0 -1 = 0; root 1 -1 = 0; strong 0 0 = -1; count 2 = 0
            """);
        runs.run("i and root 0 .. 15", Runs.KINDS, """
            strong 16 0 = !IllegalArgumentException; strong 0 0 = !IllegalStateException
            policy slide 40 = 40; make 0 0 = 0
            strong -1 0 = !IllegalArgumentException; strong 16 0 = !IllegalArgumentException
            strong 0 -1 = !IllegalArgumentException; strong 0 16 = !IllegalArgumentException
            strong 2147483647 0 = !IllegalArgumentException; strong 0 -2147483648 = !IllegalArgumentException
            strong 15 15 = -1; strong 0 0 = -1; root 0 0 = 0
            """);
        Refused.withoutHeap(runs, "strong 0 0 = !IllegalStateException", "strong 15 15 = !IllegalStateException",
            "strong 16 0 = !IllegalArgumentException", "strong 0 16 = !IllegalArgumentException");
        Refused.everywhere(runs, "strong 16 0 = !IllegalArgumentException", "strong -1 0 = !IllegalArgumentException",
            "strong 0 16 = !IllegalArgumentException", "strong 0 -1 = !IllegalArgumentException",
            "strong 1 16 = !IllegalArgumentException");
        runs.finish();
    }

    private static int words(String policy) {
        return policy.startsWith("ages") ? 52 : policy.startsWith("regions") ? 64 : 40;
    }
}
