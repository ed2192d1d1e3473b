/** FREE BLOCK, FORM and LOOKED, where a sweep leaves holes; and that counts and steps go by the same FORM. */
public final class FormTest {
    // Blocks of 3, 4, 3 and 7 words, at 0, 4, 9 and 13; the one made last ends at 13; 6 BLOCKS were LOOKED at.
    private static final String HOLES = """
        make 0 0 = 0; make 2 1 = 1; make 1 2 = 2; make 2 3 = 3; make 0 4 = 4; make 2 5 = 5
        root 0 -1 = 0; root 2 -1 = 2; root 4 -1 = 4; clean = %s
        block 0 0 = 0; block 0 1 = 3; block 1 0 = 4; block 1 1 = 4; block 2 0 = 9; block 2 1 = 3; block 3 0 = 13
        """;

    public static void main(String[] args) {
        Runs runs = new Runs();
        looked(runs);
        first(runs);
        best(runs);
        worst(runs);
        nextBegins(runs);
        nextInABlock(runs);
        nextBlockEndsThere(runs);
        nextFull(runs);
        likewise(runs);
        runs.finish();
    }

    private static String holes(String policy) {
        return "policy " + policy + "\n" + HOLES.formatted(policy.startsWith("counts") ? "0" : "10");
    }

    private static void looked(Runs runs) {
        for (String form : new String[] {"first", "next", "best", "worst"}) {
            runs.run("LOOKED, in one BLOCK and in none: " + form, "policy sweep 16 " + form + " = 16\n", """
                count 8 = 0; row false 7 0 = 0; count 8 = 1; about 0 0 = 0; row false 7 1 = 1; about 1 0 = 8; count 8 = 2
                row false 0 2 = -1; count 8 = 2; count 5 = 1     # there is no BLOCK, ahead of the cleaning and behind it
                """);
            runs.run("LOOKED, again behind the cleaning: " + form, "policy sweep 16 " + form + " = 16\n", """
                row false 13 0 = 0; count 8 = 1; row false 2 1 = -1; count 8 = 3; root 0 -1 = 0
                row false 2 1 = 1; about 1 0 = 0; count 8 = %d; count 5 = 2
                """.formatted(form.equals("next") ? 6 : 5));
        }
    }

    private static void first(Runs runs) {
        runs.run("first: the first by PLACE that has room", Runs.KINDS, holes("sweep 20 first = 20"), """
            count 8 = 6; make 1 6 = 6; about 6 0 = 4; count 8 = 8        # 4 words: 3 are too few, 4 are enough
            make 0 7 = 7; about 7 0 = 0; count 8 = 9
            make 1 8 = 8; about 8 0 = 13; count 8 = 11
            row false 3 9 = -1; count 8 = 15                             # 3 and 3 words, twice
            make 0 9 = 9; about 9 0 = 9; count 8 = 16; make 0 10 = 10; about 10 0 = 17; count 8 = 17
            make 2 11 = -1; count 8 = 17
            """);
    }

    private static void best(Runs runs) {
        runs.run("best: the smallest, the first of several", Runs.KINDS, holes("sweep 20 best = 20"), """
            count 8 = 6; make 0 6 = 6; about 6 0 = 0; count 8 = 10       # of 3 and 3 the first
            make 0 7 = 7; about 7 0 = 9; count 8 = 13                    # 3 words, not 4
            make 1 8 = 8; about 8 0 = 4; count 8 = 15
            make 1 9 = 9; about 9 0 = 13; count 8 = 16
            make 1 10 = -1; count 8 = 18                                 # 3 words, all there is, twice
            """);
        runs.run("best: a smaller one behind a greater one", Runs.KINDS, holes("sweep 20 best = 20"), """
            row false 0 6 = 6; about 6 0 = 0; make 1 7 = 7; about 7 0 = 4; make 0 8 = 8; about 8 0 = 9; count 8 = 17
            row false 1 9 = 9; about 9 0 = 1; count 8 = 19               # just 2 words
            """);
    }

    private static void worst(Runs runs) {
        runs.run("worst: the greatest, the first of several", Runs.KINDS, holes("sweep 20 worst = 20"), """
            count 8 = 6; make 0 6 = 6; about 6 0 = 13; count 8 = 10      # 4 words are left at 16
            make 2 7 = 7; about 7 0 = 4; count 8 = 14                    # of 4 and 4 the first
            make 2 8 = 8; about 8 0 = 16; count 8 = 18
            make 0 9 = 9; about 9 0 = 0; count 8 = 22                    # of 3, 3, 3 and 3 the first
            make 1 10 = -1; count 8 = 28                                 # three BLOCKS, twice
            """);
        runs.run("worst: just as many words as it has", Runs.KINDS, holes("sweep 20 worst = 20"), """
            row false 6 6 = 6; about 6 0 = 13; count 8 = 10; row false 3 7 = 7; about 7 0 = 4; count 8 = 13
            row false 3 8 = -1; count 8 = 17
            """);
    }

    private static void nextBegins(Runs runs) {
        runs.run("next: 0 at first", "policy sweep 16 next = 16; row false 3 0 = 0; about 0 0 = 0; count 8 = 1");
        runs.run("next: from the end of the one that was made last on", Runs.KINDS, holes("sweep 20 next = 20"), """
            count 8 = 6; make 0 6 = 6; about 6 0 = 13; count 8 = 7       # the BLOCK that begins there
            make 0 7 = 7; about 7 0 = 16; count 8 = 8
            make 2 8 = 8; about 8 0 = 19; count 8 = 9                    # now it begins at the end of the ROOM
            make 1 9 = 9; about 9 0 = 4; count 8 = 11                    # from the beginning: at 0, at 4
            make 0 10 = 10; about 10 0 = 9; count 8 = 12                 # from 8 on
            make 0 11 = 11; about 11 0 = 0; count 8 = 13                 # from 12 on there is none
            """);
        runs.run("next: a BLOCK that begins there is not come to twice", """
            policy sweep 16 next = 16; row false 7 0 = 0; count 8 = 1
            row false 8 1 = -1; count 8 = 3              # 8 words at 8: once ahead of the cleaning, once behind it
            row false 7 1 = 1; about 1 0 = 8; count 8 = 4
            """);
    }

    private static void nextInABlock(Runs runs) {
        // 3 .. 19 are free, the one made last ended at 9.
        String midst = """
            policy sweep 20 next = 20; make 0 0 = 0; make 0 1 = 1; make 0 2 = 2; root 1 -1 = 1; root 2 -1 = 2; clean = 6
            block 0 0 = 3; block 0 1 = 17; count 8 = 3
            """;
        runs.run("next: the BLOCK in which that is counts from there on as one", Runs.KINDS, midst, """
            row false 10 3 = 3; about 3 0 = 9; count 8 = 4               # just 11 words
            """);
        runs.run("next: then that BLOCK as a whole: LOOKED twice", Runs.KINDS, midst, """
            row false 11 3 = 3; about 3 0 = 3; count 8 = 5
            """);
        runs.run("next: the whole of it", Runs.KINDS, midst, "row false 16 3 = 3; about 3 0 = 3; count 8 = 5");
        runs.run("next: too small as a whole", Runs.KINDS, midst, """
            row false 17 3 = -1; count 8 = 7; count 5 = 2; block 0 0 = 3; block 0 1 = 17
            row false 10 3 = 3; about 3 0 = 9; count 8 = 8               # it begins where it began
            """);
        runs.run("next: small ones go on behind it, and leave the words before it", Runs.KINDS, midst, """
            make 0 3 = 3; about 3 0 = 9; make 0 4 = 4; about 4 0 = 12; make 1 5 = 5; about 5 0 = 15; count 8 = 6
            make 0 6 = 6; about 6 0 = 3; count 8 = 8                     # 1 word at 19, then at 3
            make 0 7 = 7; about 7 0 = 6; count 8 = 9
            """);
    }

    private static void nextBlockEndsThere(Runs runs) {
        // 6, 4 and 6 words; the first is made anew, as the last of all, and ends at 6.
        String ending = """
            policy sweep 16 next = 16; row false 5 0 = 0; row false 3 1 = 1; row false 5 2 = 2; root 0 -1 = 0
            row false 5 0 = 3; about 3 0 = 0; count 8 = 4; count 5 = 1; root 0 -1 = 3; clean = 6; block 0 1 = 6
            """;
        runs.run("next: a BLOCK that ends there is before it", ending, """
            row false 0 3 = 4; about 4 0 = 0; count 8 = 5
            """);
        runs.run("next: one behind it comes first", ending, """
            root 2 -1 = 2; clean = 6; row false 0 3 = 4; about 4 0 = 10; count 8 = 5
            row false 5 4 = 5; about 5 0 = 0; count 8 = 7                # 5 words at 11, then 6 at 0
            """);
    }

    private static void nextFull(Runs runs) {
        runs.run("next: one that is FULL is none that was made", Runs.KINDS, """
            policy sweep 20 next = 20; row false 4 0 = 0; row false 4 1 = 1; row false 15 2 = -1; root 0 -1 = 0; clean = 5
            make 2 2 = 2; about 2 0 = 10
            """);
        runs.run("next: a cleaning leaves where it begins", Runs.KINDS, """
            policy sweep 16 next = 16; row false 4 0 = 0; row false 4 1 = 1; row false 4 2 = 2; root 0 -1 = 0
            root 1 -1 = 1; count 8 = 3
            row false 4 3 = 3; about 3 0 = 0; count 8 = 6                # 1 word at 15, cleaned, again, then 0 .. 9
            root 2 -1 = 2; clean = 5; row false 4 4 = 4; about 4 0 = 5; count 8 = 7
            """);
    }

    private static void likewise(Runs runs) {
        for (String policy : new String[] {"counts 20", "steps 40"}) {
            String rest = policy.startsWith("steps") ? " 1 picture = 40" : " = 20";
            // In steps the last BLOCK has 27 words.
            runs.run(policy + " first", Runs.KINDS, holes(policy + " first" + rest), """
                make 1 6 = 6; about 6 0 = 4; count 8 = 8; make 0 7 = 7; about 7 0 = 0; count 8 = 9
                """);
            runs.run(policy + " next", Runs.KINDS, holes(policy + " next" + rest), """
                make 1 6 = 6; about 6 0 = 13; count 8 = 7; make 0 7 = 7; about 7 0 = 17; count 8 = 8
                """);
            runs.run(policy + " best", Runs.KINDS, holes(policy + " best" + rest), """
                make 1 6 = 6; about 6 0 = 4; count 8 = 10; make 2 7 = 7; about 7 0 = 0; count 8 = 13
                """);
            runs.run(policy + " worst", Runs.KINDS, holes(policy + " worst" + rest), """
                make 1 6 = 6; about 6 0 = 13; count 8 = 10
                """);
        }
    }
}
