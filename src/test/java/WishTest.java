/** Promise 15: wish. */
public final class WishTest {
    private static final String[] POLICIES = {
        "sweep 80 first", "slide 80", "halves 40", "ages 20 40 2 4", "counts 80 first", "steps 80 first 1 picture",
        "steps 80 first 1 news", "regions 80 20 50"
    };

    public static void main(String[] args) {
        Runs runs = new Runs();
        for (String policy : POLICIES) {
            String heap = "policy " + policy + " = 80\n";
            runs.run("1, 0 if it had", Runs.KINDS, heap, """
                make 0 0 = 0; make 0 1 = 1; about 0 7 = 0; wish 0 = 1; about 0 7 = 1; about 1 7 = 0
                wish 0 = 0; wish 0 = 0; about 0 7 = 1; count 9 = 0
                """);
            runs.run("its wish waits while it is REACHED", Runs.KINDS, heap, """
                make 0 0 = 0; wish 0 = 1; clean = 0; clean = 0; count 9 = 0; about 0 7 = 1; wish 0 = 0
                """);
            runs.run("in WISHES it has no wish any more, and may have one again", Runs.KINDS, heap, """
                make 0 0 = 0; wish 0 = 1; root 0 -1 = 0; clean = 0; count 9 = 1; about 0 7 = 0
                wish 0 = 1; wish 0 = 0; clean = 0; count 9 = 1; about 0 7 = 1
                granted 3 = 0; about 0 7 = 1; root 3 -1 = 0; clean = 0; count 9 = 1; granted 3 = 0; about 0 7 = 0
                root 3 -1 = 0; clean = %d; count 2 = 0; count 7 = 3
                """.formatted(policy.startsWith("counts") ? 0 : 3));
        }
        Refused.withoutHeap(runs, "wish 0 = !IllegalStateException", "wish -1 = !IllegalStateException");
        Refused.everywhere(runs, "wish 4 = !NoSuchElementException", "wish 10 = !NoSuchElementException",
            "wish -1 = !NoSuchElementException", "wish -2 = !NoSuchElementException",
            "wish 2147483647 = !NoSuchElementException", "wish -2147483648 = !NoSuchElementException");
        runs.finish();
    }
}
