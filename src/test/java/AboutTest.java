/** Promise 19: about. */
public final class AboutTest {
    private static final String[] POLICIES = {
        "sweep 80 first", "slide 80", "halves 40", "ages 20 40 2 4", "counts 80 first", "steps 80 first 1 picture",
        "steps 80 first 1 news", "regions 80 20 50"
    };

    public static void main(String[] args) {
        Runs runs = new Runs();
        for (String policy : POLICIES) {
            boolean aged = policy.startsWith("ages");
            int from = aged ? 40 : 0;
            runs.run("PLACE, SIZE and KIND: " + policy, Runs.KINDS, "policy " + policy + " = 80\n", """
                make 2 0 = 0; about 0 0 = %d; about 0 1 = 1; about 0 2 = 2; make 3 1 = 1; about 1 0 = %d; about 1 1 = 9
                about 1 2 = 3; row true 0 2 = 2; about 2 0 = %d; about 2 1 = 1; about 2 2 = 16
                row false 3 3 = 3; about 3 1 = 4; about 3 2 = 17
                """.formatted(from, from + 1, from + 10));
            runs.run("what 0 .. 7", Runs.KINDS, "policy " + policy + " = 80\n", """
                make 0 0 = 0
                about 0 -1 = !IllegalArgumentException; about 0 8 = !IllegalArgumentException
                about 0 2147483647 = !IllegalArgumentException; about 0 -2147483648 = !IllegalArgumentException
                about 9 8 = !IllegalArgumentException; about 9 7 = !NoSuchElementException; about -1 0 = !NoSuchElementException
                about 1 0 = !NoSuchElementException; about 2147483647 0 = !NoSuchElementException
                about -2147483648 7 = !NoSuchElementException
                """);
            runs.run("AGE: 0 of others", Runs.KINDS, "policy " + policy + " = 80\n", """
                make 0 0 = 0; about 0 3 = 0; clean = 0; about 0 3 = %d; clean = 0; about 0 3 = %d; clean = 0; about 0 3 = %2$d
                """.formatted(aged ? 1 : 0, aged ? 2 : 0));
            runs.run("COUNT: else 0", Runs.KINDS, "policy " + policy + " = 80\n", """
                make 0 0 = 0; root 1 0 = -1; link 0 0 0 = -1; about 0 4 = %d
                """.formatted(policy.startsWith("counts") ? 3 : 0));
            runs.run("a wish: 1, else 0", Runs.KINDS, "policy " + policy + " = 80\n", """
                make 0 0 = 0; about 0 7 = 0; wish 0 = 1; about 0 7 = 1; root 0 -1 = 0; clean = 0; about 0 7 = 0
                """);
        }
        colours(runs);
        ages(runs);
        Refused.withoutHeap(runs, "about 0 0 = !IllegalStateException", "about -1 7 = !IllegalStateException",
            "about 0 8 = !IllegalArgumentException", "about 0 -1 = !IllegalArgumentException");
        Refused.everywhere(runs, "about 0 8 = !IllegalArgumentException", "about 0 -1 = !IllegalArgumentException",
            "about 99 8 = !IllegalArgumentException", "about 4 0 = !NoSuchElementException",
            "about 10 7 = !NoSuchElementException", "about -1 0 = !NoSuchElementException");
        runs.finish();
    }

    private static void colours(Runs runs) {
        runs.run("0 WHITE, 1 GREY, 2 BLACK: steps, MARKING; else 0", Runs.KINDS, """
            policy steps 16 first 1 picture = 16; make 0 0 = 0; make 0 1 = 1; link 1 0 0 = -1; root 0 -1 = 0
            row false 6 2 = 2; about 0 5 = 0; about 1 5 = 0; about 2 5 = 0; count 12 = 0
            root 3 2 = -1; root 2 1 = 2; root 1 -1 = 1   # 1 by ROOT 2, 2 by ROOT 3
            link 0 1 0 = -1; make 2 4 = 3; count 12 = 1; about 1 5 = 2; about 0 5 = 1; about 2 5 = 1; about 3 5 = 2
            step 9 = 2; count 12 = 0; about 0 5 = 0; about 1 5 = 0; about 3 5 = 0
            """);
    }

    private static void ages(Runs runs) {
        runs.run("AGE in OLD: what it had then", Runs.KINDS, """
            policy ages 16 40 3 4 = 72; row false 8 0 = 0; make 0 1 = 1; about 0 3 = 0; about 0 0 = 0
            clean = 0; about 0 3 = 0; about 1 3 = 1; clean = 0; about 1 3 = 2; clean = 0; about 1 3 = 3; about 1 0 = 9
            clean = 0; clean = 0; about 1 3 = 3; about 0 3 = 0
            """);
    }
}
