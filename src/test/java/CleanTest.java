/** Promise 17: clean. */
public final class CleanTest {
    private static final String[] POLICIES = {
        "sweep 80 first", "slide 80", "halves 40", "ages 20 40 2 4", "counts 80 first", "steps 80 first 1 picture",
        "steps 80 first 1 news", "regions 80 20 50"
    };

    public static void main(String[] args) {
        Runs runs = new Runs();
        runs.run("there is no heap", "clean = !IllegalStateException; policy slide 16 = 16; clean = 0");
        for (String policy : POLICIES) {
            String heap = "policy " + policy + " = 80\n";
            int each = policy.startsWith("ages") ? 2 : 1;
            runs.run("an empty heap", heap, "clean = 0; clean = 0; count 7 = 0; count 6 = 0; count 2 = 0; count 5 = " + 2 * each);
            runs.run("how many words are free by it", Runs.KINDS, heap, """
                make 0 0 = 0; make 1 1 = 1; make 2 2 = 2; link 0 0 0 = -1; link 1 0 1 = -1; root 0 -1 = 0
                clean = 3; clean = 0; root 1 -1 = 1; clean = 4; count 7 = 7; clean = 0; count 3 = 1
                """, "count 5 = " + 4 * each);
        }
        runs.run("by counts, what went ahead of it is not by it", Runs.KINDS, """
            policy counts 40 first = 40; make 0 0 = 0; make 1 1 = 1; link 1 0 1 = -1; root 0 -1 = 0; root 1 -1 = 1
            count 7 = 3; clean = 4; count 7 = 7
            """);
        runs.run("ages: a major one, then a minor one", Runs.KINDS, """
            policy ages 16 20 3 4 = 52; row true 8 0 = 0; make 0 1 = 1; make 0 2 = 2; root 0 -1 = 0; root 1 -1 = 1
            clean = 12; count 5 = 2; count 7 = 12; about 2 0 = 36; about 2 3 = 1; count 13 = 0; count 11 = 39
            """);
        runs.run("in steps: by the one that ends", Runs.KINDS, """
            policy steps 16 first 1 picture = 16; row false 6 0 = 0; row false 5 1 = 1; make 2 2 = 2; count 12 = 1
            root 0 -1 = 0; root 1 -1 = 1     # they were REACHED when it began
            clean = 0; count 12 = 0; count 5 = 1; clean = 13; count 5 = 2
            """);
        runs.finish();
    }
}
