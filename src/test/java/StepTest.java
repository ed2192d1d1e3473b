/** Promise 18: step. */
public final class StepTest {
    // 0 refers to 1, 1 to 2; 3 has 22 words; the last make begins to mark, and does one step: 0 is BLACK.
    private static final String MARKING = """
        make 0 0 = 0; make 0 1 = 1; make 0 2 = 2; link 0 0 1 = -1; link 1 0 2 = -1; root 1 -1 = 1; root 2 -1 = 2
        row false 21 3 = 3; make 2 4 = 4; count 12 = 1; count 10 = 2
        """;

    public static void main(String[] args) {
        Runs runs = new Runs();
        runs.run("n 0 .. 1000", """
            step -1 = !IllegalArgumentException; step 1001 = !IllegalArgumentException
            policy steps 40 first 1 news = 40
            step -1 = !IllegalArgumentException; step 1001 = !IllegalArgumentException
            step -2147483648 = !IllegalArgumentException; step 2147483647 = !IllegalArgumentException
            step 0 = 0; step 1000 = 0
            """);
        runs.run("IDLE: 0", Runs.KINDS, """
            policy steps 40 first 1 picture = 40; make 0 0 = 0; make 0 1 = 1; root 1 -1 = 1; step 0 = 0; step 7 = 0
            count 12 = 0; count 5 = 0; count 2 = 2; count 10 = 0
            """);
        for (String policy : new String[] {"sweep 64 best = 64", "slide 64 = 64", "halves 32 = 64", "ages 20 24 1 4 = 64",
            "counts 64 next = 64", "regions 64 16 5 = 64"}) {
            runs.run("the heap has no steps", "policy " + policy + "\n", """
                step 0 = !UnsupportedOperationException; step 1 = !UnsupportedOperationException
                step 1000 = !UnsupportedOperationException
                step 1001 = !IllegalArgumentException; step -1 = !IllegalArgumentException
                """);
        }
        for (String barrier : new String[] {"picture", "news"}) {
            marking(runs, "policy steps 40 first 1 " + barrier + " = 40\n");
        }
        Refused.withoutHeap(runs, "step 0 = !IllegalStateException", "step 1000 = !IllegalStateException",
            "step 1001 = !IllegalArgumentException", "step -1 = !IllegalArgumentException");
        Refused.everywhere(runs, "step 1001 = !IllegalArgumentException", "step -1 = !IllegalArgumentException");
        for (String policy : Refused.POLICIES) {
            if (!policy.startsWith("steps")) {
                Refused.in(runs, policy, "step 0 = !UnsupportedOperationException", "step 1 = !UnsupportedOperationException");
            }
        }
        runs.finish();
    }

    private static void marking(Runs runs, String heap) {
        runs.run("n STEPS: the first GREY one is BLACK, what it leads to comes to the end", Runs.KINDS, heap, MARKING, """
            about 0 5 = 2; about 1 5 = 1; about 2 5 = 0; about 3 5 = 1; about 4 5 = 2
            step 0 = 0; count 10 = 2; count 12 = 1
            step 1 = 1; about 3 5 = 2; about 1 5 = 1; about 2 5 = 0; count 10 = 1; count 12 = 1    # 3, then 1, in the row
            step 1 = 1; about 1 5 = 2; about 2 5 = 1; count 10 = 1; count 12 = 1; count 5 = 0
            step 1 = 1; count 12 = 0; count 10 = 0; count 5 = 1; step 1 = 0; count 5 = 1
            """);
        runs.run("just as many as there are", Runs.KINDS, heap, MARKING, "step 3 = 3; count 12 = 0; count 5 = 1; step 3 = 0");
        runs.run("fewer, if the row is empty", Runs.KINDS, heap, MARKING, "step 4 = 3; count 12 = 0; count 5 = 1");
        runs.run("1000", Runs.KINDS, heap, MARKING, "step 1000 = 3; count 12 = 0; count 5 = 1; step 1000 = 0");
        runs.run("all but one", Runs.KINDS, heap, MARKING, "step 2 = 2; count 12 = 1; count 10 = 1; count 5 = 0; about 2 5 = 1");
        runs.run("what comes of an empty row: what is WHITE is free", Runs.KINDS, heap, """
            make 0 0 = 0; make 0 1 = 1; make 0 2 = 2; weak 0 1 = -1; wish 2 = 1; weak 1 2 = -1; root 1 -1 = 1; root 2 -1 = 2
            row false 21 3 = 3; make 2 4 = 4; count 12 = 1; count 10 = 1
            step 1 = 1; count 12 = 0; count 7 = 3; count 9 = 1; strong 0 5 = -1; strong 1 5 = -1; granted 5 = 2
            """);
    }
}
