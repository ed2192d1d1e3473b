/** Promise 16: granted. */
public final class GrantedTest {
    private static final String[] POLICIES = {
        "sweep 80 first", "slide 80", "halves 40", "ages 20 40 2 4", "counts 80 first", "steps 80 first 1 picture",
        "steps 80 first 1 news", "regions 80 20 50"
    };

    public static void main(String[] args) {
        Runs runs = new Runs();
        for (String policy : POLICIES) {
            String heap = "policy " + policy + " = 80\n";
            runs.run("the row is empty", Runs.KINDS, heap, """
                granted 0 = -1; make 0 0 = 0; granted 0 = -1; root 0 0 = 0; wish 0 = 1; granted 0 = -1; root 0 0 = 0
                """);
            runs.run("the first comes to ROOT root, and goes out of the row", Runs.KINDS, heap, """
                make 0 0 = 0; make 0 1 = 1; make 0 2 = 2; wish 0 = 1; wish 1 = 1; wish 2 = 1
                root 0 -1 = 0; root 1 -1 = 1; root 2 -1 = 2; clean = 0; count 9 = 3
                granted 15 = 0; count 9 = 2; root 15 0 = 0; granted 0 = 1; count 9 = 1; root 0 1 = 1
                granted 15 = 2; count 9 = 0; root 15 2 = 2; about 0 0 = !NoSuchElementException
                granted 15 = -1; root 15 2 = 2; root 0 1 = 1
                """);
            runs.run("the ROOT has it already", Runs.KINDS, heap, """
                make 0 0 = 0; wish 0 = 1; root 0 -1 = 0; clean = 0; root 3 0 = -1; granted 3 = 0; root 3 0 = 0; count 9 = 0
                count 2 = 1
                """);
        }
        runs.run("root 0 .. 15", Runs.KINDS, """
            granted 16 = !IllegalArgumentException; granted 0 = !IllegalStateException
            policy sweep 40 first = 40; granted -1 = !IllegalArgumentException; granted 16 = !IllegalArgumentException
            granted 2147483647 = !IllegalArgumentException; granted -2147483648 = !IllegalArgumentException
            granted 0 = -1; granted 15 = -1
            """);
        runs.run("by counts, what the ROOT had falls", Runs.KINDS, """
            policy counts 40 first = 40; make 0 0 = 0; make 0 1 = 1; wish 0 = 1; wish 1 = 1; root 0 -1 = 0
            granted 1 = 0; count 9 = 1; count 2 = 2; about 1 4 = 1; about 0 4 = 1; granted 1 = 1; count 2 = 1; count 9 = 0
            """);
        Refused.withoutHeap(runs, "granted 0 = !IllegalStateException", "granted 16 = !IllegalArgumentException",
            "granted -1 = !IllegalArgumentException");
        Refused.everywhere(runs, "granted 16 = !IllegalArgumentException", "granted -1 = !IllegalArgumentException");
        runs.finish();
    }
}
