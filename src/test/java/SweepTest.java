/** The policy sweep: FORM, LOOKED, and what a make does that finds no room. */
public final class SweepTest {
    // Blocks of 3, 4, 3 and 7 words: at 0, 4, 9 and 13.
    private static final String HOLES = """
        make 0 0 = 0; make 2 1 = 1; make 1 2 = 2; make 2 3 = 3; make 0 4 = 4; make 2 5 = 5
        root 0 -1 = 0; root 2 -1 = 2; root 4 -1 = 4; clean = 10; count 8 = 6
        block 0 0 = 0; block 0 1 = 3; block 1 0 = 4; block 1 1 = 4; block 2 0 = 9; block 2 1 = 3; block 3 0 = 13
        block 3 1 = 7; block 4 0 = !IndexOutOfBoundsException
        """;

    public static void main(String[] args) {
        Runs runs = new Runs();
        forms(runs);
        next(runs);
        full(runs);
        runs.finish();
    }

    private static void forms(Runs runs) {
        runs.run("first", Runs.KINDS, "policy sweep 20 first = 20\n", HOLES, """
            make 1 6 = 6; about 6 0 = 4; count 8 = 8
            make 0 7 = 7; about 7 0 = 0; count 8 = 9
            make 1 8 = 8; about 8 0 = 13; count 8 = 11
            """);
        runs.run("best", Runs.KINDS, "policy sweep 20 best = 20\n", HOLES, """
            make 0 6 = 6; about 6 0 = 0; count 8 = 10    # the first of two
            make 2 7 = 7; about 7 0 = 9; count 8 = 13
            make 0 8 = 8; about 8 0 = 4; count 8 = 16
            make 0 9 = 9; about 9 0 = 13; count 8 = 19   # 1 word at 7, 2 at 10, 7 at 13
            """);
        runs.run("worst", Runs.KINDS, "policy sweep 20 worst = 20\n", HOLES, """
            make 0 6 = 6; about 6 0 = 13; count 8 = 10   # 4 words at 4, 4 at 16
            make 2 7 = 7; about 7 0 = 4; count 8 = 14    # the first of two
            make 2 8 = 8; about 8 0 = 16; count 8 = 18
            make 2 9 = 9; about 9 0 = 0; count 8 = 22
            """);
        runs.run("next", Runs.KINDS, "policy sweep 20 next = 20\n", HOLES, """
            make 1 6 = 6; about 6 0 = 13; count 8 = 7    # the one made last ends at 13
            make 0 7 = 7; about 7 0 = 17; count 8 = 8
            make 1 8 = 8; about 8 0 = 4; count 8 = 10    # from the beginning
            make 0 9 = 9; about 9 0 = 9; count 8 = 11
            """);
    }

    private static void next(Runs runs) {
        runs.run("next, in the midst of a block", Runs.KINDS, """
            policy sweep 16 next = 16
            make 0 0 = 0; make 0 1 = 1; make 0 2 = 2; count 8 = 3
            root 1 -1 = 1; clean = 3
            row false 5 3 = 3; about 3 0 = 9; count 8 = 4
            make 0 4 = 4; about 4 0 = 3; count 8 = 6
            root 0 -1 = 0; root 2 -1 = 2; root 4 -1 = 4; clean = 9
            block 0 0 = 0; block 0 1 = 9; block 1 0 = 15     # the one made last ended at 6
            make 1 5 = 5; about 5 0 = 0; count 8 = 9         # from 6 on, at 15, and at 0 the first one as a whole
            make 0 6 = 6; about 6 0 = 4; count 8 = 10
            """);
        runs.run("next, beginning where the last one ends", Runs.KINDS, """
            policy sweep 16 next = 16
            row false 7 0 = 0; count 8 = 1
            row false 8 1 = -1               # 8 words at 8: once ahead of the cleaning, once behind it
            count 8 = 3; count 5 = 1
            row false 7 1 = 1; about 1 0 = 8; count 8 = 4
            make 2 2 = -1; count 8 = 4       # no block at all
            root 0 -1 = 0; make 2 2 = 2; about 2 0 = 0; count 8 = 5; count 5 = 3
            """);
    }

    private static void full(Runs runs) {
        runs.run("cleaned, then tried once more", Runs.KINDS, """
            policy sweep 16 first = 16
            row true 6 0 = 0; row false 7 1 = 1; count 3 = 15
            make 0 2 = -1; count 5 = 1; count 7 = 0; count 4 = 2; root 2 -1 = -1
            count 8 = 4                      # two makes, and two looks at the word at 15
            wish 0 = 1; weak 0 1 = -1; root 0 -1 = 0; root 1 -1 = 1
            make 3 2 = 2; about 2 0 = 7; count 5 = 2; count 7 = 8; count 9 = 1; about 0 0 = 0; strong 0 3 = -1
            make 0 3 = -1; granted 0 = 0; make 0 3 = -1; count 9 = 0
            make 0 0 = -1                    # the root has what it had while it is cleaned
            root 0 -1 = 0; make 0 0 = 3; about 3 0 = 0; count 6 = 0; count 11 = 0; count 13 = 0; count 10 = 0
            """);
    }
}
