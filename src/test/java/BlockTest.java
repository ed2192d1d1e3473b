/** Promise 20: block. */
public final class BlockTest {
    public static void main(String[] args) {
        Runs runs = new Runs();
        for (String policy : new String[] {"sweep 16 first", "counts 16 first", "steps 16 first 1 news"}) {
            runs.run("all is free, nothing is free", Runs.KINDS, "policy " + policy + " = 16\n", """
                block 0 0 = 0; block 0 1 = 16; block 1 0 = !IndexOutOfBoundsException; block 1 1 = !IndexOutOfBoundsException
                row false 15 0 = 0; block 0 0 = !IndexOutOfBoundsException; block 0 1 = !IndexOutOfBoundsException
                """);
            runs.run("by PLACE, as long as may be", Runs.KINDS, "policy " + policy + " = 16\n", """
                make 2 0 = 0; make 2 1 = 1; make 2 2 = 2; make 2 3 = 3; make 2 4 = 4; block 0 0 = 5; block 0 1 = 11
                root 1 -1 = 1; root 3 -1 = 3; clean = %1$d; block 0 0 = 1; block 0 1 = 1; block 1 0 = 3; block 1 1 = 1
                block 2 0 = 5; block 2 1 = 11; block 3 0 = !IndexOutOfBoundsException
                root 2 -1 = 2; clean = %2$d; block 0 0 = 1; block 0 1 = 3; block 1 0 = 5; block 1 1 = 11
                block 2 0 = !IndexOutOfBoundsException
                root 4 -1 = 4; clean = %2$d; block 0 0 = 1; block 0 1 = 15; root 0 -1 = 0; clean = %2$d; block 0 0 = 0
                block 0 1 = 16
                """.formatted(policy.startsWith("counts") ? 0 : 2, policy.startsWith("counts") ? 0 : 1));
            runs.run("the last word", Runs.KINDS, "policy " + policy + " = 16\n", """
                row false 10 0 = 0; row false 3 1 = 1; block 0 0 = 15; block 0 1 = 1; block 1 0 = !IndexOutOfBoundsException
                """);
            runs.run("i and part", "policy " + policy + " = 16\n", """
                block -1 0 = !IndexOutOfBoundsException; block -2147483648 1 = !IndexOutOfBoundsException
                block 2147483647 0 = !IndexOutOfBoundsException; block 16 0 = !IndexOutOfBoundsException
                block 0 -1 = !IllegalArgumentException; block 0 2 = !IllegalArgumentException
                block 1 2 = !IllegalArgumentException; block 0 2147483647 = !IllegalArgumentException
                block 0 -2147483648 = !IllegalArgumentException
                """);
        }
        manyBlocks(runs);
        runs.run("what is not REACHED is not free up to a cleaning", Runs.KINDS, """
            policy sweep 16 first = 16; make 0 0 = 0; root 0 -1 = 0; block 0 0 = 3; clean = 3; block 0 0 = 0
            policy counts 16 first = 16; make 0 0 = 0; root 0 -1 = 0; block 0 0 = 0; block 0 1 = 16
            """);
        for (String policy : new String[] {"slide 64 = 64", "halves 32 = 64", "ages 20 24 1 4 = 64", "regions 64 16 5 = 64"}) {
            runs.run("in sweep, counts, steps alone", "policy " + policy + "\n", """
                block 0 0 = !UnsupportedOperationException; block 0 1 = !UnsupportedOperationException
                block 9 0 = !UnsupportedOperationException; block -1 0 = !UnsupportedOperationException
                block 0 2 = !IllegalArgumentException; block 0 -1 = !IllegalArgumentException
                """);
        }
        Refused.withoutHeap(runs, "block 0 0 = !IllegalStateException", "block -1 1 = !IllegalStateException",
            "block 0 2 = !IllegalArgumentException", "block 0 -1 = !IllegalArgumentException");
        Refused.everywhere(runs, "block 0 2 = !IllegalArgumentException", "block 0 -1 = !IllegalArgumentException");
        Refused.in(runs, "sweep 60 next", "block 9 0 = !IndexOutOfBoundsException", "block -1 0 = !IndexOutOfBoundsException");
        Refused.in(runs, "counts 60 worst", "block 9 1 = !IndexOutOfBoundsException");
        Refused.in(runs, "steps 60 best 1 news", "block 9 1 = !IndexOutOfBoundsException");
        Refused.in(runs, "slide 60", "block 0 0 = !UnsupportedOperationException");
        Refused.in(runs, "regions 120 24 40", "block 0 0 = !UnsupportedOperationException");
        runs.finish();
    }

    private static void manyBlocks(Runs runs) {
        // Every second one is held, so that the others leave blocks of one word.
        StringBuilder held = new StringBuilder();
        for (int n = 0; n < 150; n++) {
            held.append("make 2 0 = ").append(n).append(n % 2 == 0 ? "; hold " + n + " true = 1\n" : "\n");
        }
        runs.run("as many as may be", Runs.KINDS, "policy sweep 150 first = 150\n", held.toString(), """
            root 0 -1 = 149; clean = 75; block 0 0 = 1; block 74 0 = 149; block 74 1 = 1; block 75 0 = !IndexOutOfBoundsException
            """);
    }
}
