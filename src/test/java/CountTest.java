/** Promise 21: count. */
public final class CountTest {
    private static final String[] POLICIES = {
        "sweep 80 first", "slide 80", "halves 40", "ages 20 40 2 4", "counts 80 first", "steps 80 first 1 picture",
        "steps 80 first 1 news", "regions 80 20 50"
    };

    public static void main(String[] args) {
        Runs runs = new Runs();
        runs.run("what 0 .. 13; 2 and more: there is no heap", Runs.KINDS, """
            count -1 = !IllegalArgumentException; count 14 = !IllegalArgumentException
            count 2147483647 = !IllegalArgumentException; count -2147483648 = !IllegalArgumentException
            count 0 = 0; count 1 = 4; count 2 = !IllegalStateException; count 13 = !IllegalStateException
            feed 1 2 3 4 5 = 20; count 0 = 20; end 7 = 7; count 0 = 7
            policy slide 40 = 40; count 13 = 0; count 14 = !IllegalArgumentException; count -1 = !IllegalArgumentException
            """);
        for (String policy : POLICIES) {
            String heap = "policy " + policy + " = 80\n";
            empty(runs, heap, policy);
            objects(runs, heap, policy);
        }
        cleanings(runs);
        moved(runs);
        freed(runs);
        tops(runs);
        Refused.everywhere(runs, "count 14 = !IllegalArgumentException", "count -1 = !IllegalArgumentException");
        runs.finish();
    }

    private static void empty(Runs runs, String heap, String policy) {
        runs.run("an empty heap: " + policy, heap, """
            count 0 = 0; count 1 = 0; count 2 = 0; count 3 = 0; count 4 = 0; count 5 = 0; count 6 = 0; count 7 = 0
            count 8 = 0; count 9 = 0; count 10 = %d; count 11 = %d; count 12 = 0; count 13 = 0
            """.formatted(policy.startsWith("regions") ? 4 : 0, policy.startsWith("ages") ? 40 : 0));
    }

    private static void objects(Runs runs, String heap, String policy) {
        boolean counted = policy.startsWith("counts");
        runs.run("OBJECTS that are there, words, NUMBERS: " + policy, Runs.KINDS, heap, """
            make 0 0 = 0; make 1 1 = 1; row true 5 2 = 2; count 2 = 3; count 3 = 13; count 4 = 3
            root 1 -1 = 1; count 2 = %d; count 3 = %d; count 4 = 3; clean = %d; count 2 = 2; count 3 = 9; count 4 = 3
            count 7 = 4; wish 2 = 1; count 9 = 0; root 2 -1 = 2; clean = 0; count 9 = 1; count 2 = 2; granted 0 = 2
            count 9 = 0; count 4 = 3
            """.formatted(counted ? 2 : 3, counted ? 9 : 13, counted ? 0 : 4));
    }

    private static void cleanings(Runs runs) {
        runs.run("cleanings: minor and major ones too", Runs.KINDS, """
            policy ages 16 20 3 4 = 52; clean = 0; count 5 = 2
            row false 7 0 = 0; row false 7 0 = 1; count 5 = 2; make 2 1 = 2; count 5 = 3     # a minor one
            row false 8 2 = 3; row false 8 2 = 4; row false 8 2 = 5; count 5 = 4             # a major one
            """);
        runs.run("cleanings: in steps those that ended", Runs.KINDS, """
            policy steps 16 first 1 picture = 16; row false 6 0 = 0; row false 5 1 = 1; make 2 2 = 2; count 12 = 1; count 5 = 0
            step 1 = 1; count 12 = 0; count 5 = 1; clean = 0; count 5 = 2
            """);
        runs.run("cleanings: by counts, what falls is none", Runs.KINDS, """
            policy counts 16 first = 16; make 0 0 = 0; root 0 -1 = 0; count 7 = 3; count 5 = 0; clean = 0; count 5 = 1
            """);
    }

    private static void moved(Runs runs) {
        runs.run("words that moved: slide, to another PLACE alone", Runs.KINDS, """
            policy slide 40 = 40; make 0 0 = 0; make 0 1 = 1; make 1 2 = 2; clean = 0; count 6 = 0
            root 1 -1 = 1; clean = 3; count 6 = 4; clean = 0; count 6 = 4; root 0 -1 = 0; clean = 3; count 6 = 8
            """);
        runs.run("words that moved: halves, all that is KEPT", Runs.KINDS, """
            policy halves 20 = 40; make 0 0 = 0; make 1 1 = 1; clean = 0; count 6 = 7; root 0 -1 = 0; clean = 3; count 6 = 11
            """);
        runs.run("words that moved: ages, to the other half, to OLD, and in OLD", Runs.KINDS, """
            policy ages 20 40 2 4 = 80; row false 10 0 = 0; make 0 1 = 1; clean = 0; count 6 = 3; clean = 0; count 6 = 6
            clean = 0; count 6 = 6; root 0 -1 = 0; clean = 11; count 6 = 9; about 1 0 = 0
            """);
        runs.run("words that moved: not by sweep, counts, steps", Runs.KINDS, """
            policy sweep 20 first = 20; make 0 0 = 0; make 1 1 = 1; root 0 -1 = 0; clean = 3; count 6 = 0; about 1 0 = 3
            policy counts 20 first = 20; make 0 0 = 0; make 1 1 = 1; root 0 -1 = 0; clean = 0; count 6 = 0; about 1 0 = 3
            policy steps 20 first 1 news = 20; make 0 0 = 0; make 1 1 = 1; root 0 -1 = 0; clean = 3; count 6 = 0; about 1 0 = 3
            """);
    }

    private static void freed(Runs runs) {
        runs.run("words that got free: in counts also else", Runs.KINDS, """
            policy counts 20 first = 20; make 0 0 = 0; root 0 -1 = 0; count 7 = 3; make 1 0 = 1; link 1 0 1 = -1
            root 0 -1 = 1; count 7 = 3; clean = 4; count 7 = 7
            """);
        runs.run("words that got free: by a make that cleans", Runs.KINDS, """
            policy slide 16 = 16; row false 14 0 = 0; root 0 -1 = 0; count 7 = 0; make 0 0 = 1; count 7 = 15
            row false 15 1 = -1; count 7 = 15
            """);
    }

    private static void tops(Runs runs) {
        runs.run("TOP: slide", Runs.KINDS, """
            policy slide 16 = 16; make 0 0 = 0; count 11 = 3; make 1 1 = 1; count 11 = 7; root 1 -1 = 1; count 11 = 7
            clean = 4; count 11 = 3; row false 12 1 = 2; count 11 = 16
            """);
        runs.run("TOP: halves", Runs.KINDS, """
            policy halves 16 = 32; make 0 0 = 0; count 11 = 3; clean = 0; count 11 = 19; row false 12 1 = 1; count 11 = 32
            root 1 -1 = 1; clean = 13; count 11 = 3
            """);
        runs.run("TOP: ages, of YOUNG; of OLD", Runs.KINDS, """
            policy ages 16 20 2 4 = 52; make 0 0 = 0; count 11 = 23; count 13 = 0; row false 8 1 = 1; count 11 = 23
            count 13 = 9; clean = 0; count 11 = 39; clean = 0; count 11 = 20; count 13 = 12
            """);
        runs.run("TOP: regions, of the present one; the present REGION", Runs.KINDS, """
            policy regions 64 16 0 = 64; make 0 0 = 0; count 11 = 3; count 13 = 0; row false 13 1 = 1; count 11 = 30
            count 13 = 1; row false 1 2 = 2; count 11 = 32; count 13 = 1; make 2 3 = 3; count 11 = 33; count 13 = 2
            """);
    }
}
