/** What a cleaning KEEPS, and the order of wishes and WEAK in it, the same in every policy. */
public final class KeepsTest {
    private static final String[] POLICIES = {
        "sweep 80 first", "slide 80", "halves 40", "ages 20 40 2 4", "ages 20 40 1 4", "counts 80 first",
        "steps 80 first 1 picture", "steps 80 first 1 news", "regions 80 20 50"
    };
    // Each refers to itself, so that by counts, too, it is there up to a cleaning; WEAK n has n.
    private static final String SIX = """
        make 0 0 = 0; make 0 1 = 1; make 0 2 = 2; make 0 3 = 3; make 0 4 = 4; make 0 5 = 5
        link 0 1 0 = -1; link 1 1 1 = -1; link 2 1 2 = -1; link 3 1 3 = -1; link 4 1 4 = -1; link 5 1 5 = -1
        weak 0 0 = -1; weak 1 1 = -1; weak 2 2 = -1; weak 3 3 = -1; weak 4 4 = -1; weak 5 5 = -1
        """;
    private static final String NO_ROOTS = """
        root 0 -1 = 0; root 1 -1 = 1; root 2 -1 = 2; root 3 -1 = 3; root 4 -1 = 4; root 5 -1 = 5
        """;

    public static void main(String[] args) {
        Runs runs = new Runs();
        for (String policy : POLICIES) {
            String heap = "policy " + policy + " = 80\n";
            reached(runs, heap);
            risingByNumber(runs, heap);
            keptByAWish(runs, heap);
            ring(runs, heap);
            reachedOnes(runs, heap);
            endOfTheRow(runs, heap);
            byALaterWish(runs, heap);
        }
        weakBeforeAnythingGoes(runs);
        runs.finish();
    }

    private static void reached(Runs runs, String heap) {
        runs.run("KEEPS what is REACHED; WEAK of others become NOTHING; these are gone", Runs.KINDS, heap, SIX, """
            link 1 0 3 = -1; link 3 0 4 = -1; link 2 0 1 = -1
            root 0 -1 = 0; root 2 -1 = 2; root 3 -1 = 3; root 4 -1 = 4
            weak 15 0 = !NoSuchElementException; weak 15 1 = -1
            clean = 6; count 2 = 4; count 3 = 12; count 7 = 6
            weak 0 -1 = -1; weak 1 -1 = 1; weak 2 -1 = -1; weak 3 -1 = 3; weak 4 -1 = 4; weak 5 -1 = 5; weak 15 -1 = 1
            get 1 0 = 3; get 3 0 = 4; get 4 1 = 4; clean = 0; count 7 = 6
            """);
        runs.run("nothing is REACHED", Runs.KINDS, heap, SIX, NO_ROOTS, """
            clean = 18; count 2 = 0; count 3 = 0; count 4 = 6; count 7 = 18; count 9 = 0
            strong 0 0 = -1; strong 5 0 = -1; root 0 -1 = -1; clean = 0
            """);
    }

    private static void risingByNumber(Runs runs, String heap) {
        runs.run("each with a wish, rising by NUMBER", Runs.KINDS, heap, SIX, """
            wish 4 = 1; wish 1 = 1; wish 3 = 1; link 3 0 1 = -1; link 4 0 0 = -1
            """, NO_ROOTS, """
            clean = 6; count 9 = 3           # 1; 3, although it leads to 1; 4, which keeps 0
            about 1 7 = 0; about 3 7 = 0; about 4 7 = 0; count 2 = 4
            weak 1 -1 = -1; weak 3 -1 = -1; weak 4 -1 = -1; weak 2 -1 = -1; weak 5 -1 = -1; weak 0 -1 = 0
            granted 0 = 1; granted 1 = 3; granted 2 = 4; granted 3 = -1; get 4 0 = 0
            """);
    }

    private static void keptByAWish(Runs runs, String heap) {
        runs.run("those with a wish that are KEPT by that keep it; WEAK of them stay", Runs.KINDS, heap, SIX, """
            wish 1 = 1; wish 3 = 1; wish 5 = 1; link 1 0 2 = -1; link 2 0 3 = -1; weak 15 1 = -1; weak 14 3 = -1
            """, NO_ROOTS, """
            clean = 6; count 9 = 2           # 1, by which 2 and 3 are KEPT, and 5
            about 1 7 = 0; about 3 7 = 1; about 5 7 = 0
            weak 1 -1 = -1; weak 15 -1 = -1; weak 2 -1 = 2; weak 3 -1 = 3; weak 14 -1 = 3; weak 5 -1 = -1; weak 0 -1 = -1
            granted 7 = 1; granted 8 = 5; granted 9 = -1; get 2 0 = 3
            root 7 -1 = 1; clean = 6; count 9 = 1; granted 7 = 3; about 3 7 = 0
            """);
    }

    private static void ring(Runs runs, String heap) {
        runs.run("two with a wish that lead to one another", Runs.KINDS, heap, SIX, """
            wish 2 = 1; wish 4 = 1; link 2 0 4 = -1; link 4 0 2 = -1
            """, NO_ROOTS, """
            clean = 12; count 9 = 1; about 2 7 = 0; about 4 7 = 1; weak 2 -1 = -1; weak 4 -1 = 4; granted 0 = 2
            root 0 -1 = 2; clean = 0; count 9 = 1; granted 0 = 4; root 0 -1 = 4; clean = 6; count 2 = 0
            """);
    }

    private static void reachedOnes(Runs runs, String heap) {
        runs.run("of those that are not KEPT alone", Runs.KINDS, heap, SIX, """
            wish 0 = 1; wish 1 = 1; link 0 0 1 = -1; root 1 -1 = 1; clean = 0
            count 9 = 0; about 0 7 = 1; about 1 7 = 1; weak 0 -1 = 0; weak 1 -1 = 1
            """);
    }

    private static void endOfTheRow(Runs runs, String heap) {
        runs.run("it comes to the end of WISHES", Runs.KINDS, heap, SIX, """
            wish 3 = 1; wish 1 = 1; wish 2 = 1; root 3 -1 = 3; clean = 0; count 9 = 1
            root 1 -1 = 1; root 2 -1 = 2; clean = 0; count 9 = 3
            granted 3 = 3; wish 3 = 1; root 3 -1 = 3; clean = 0; count 9 = 3
            granted 1 = 1; granted 2 = 2; granted 3 = 3; granted 3 = -1
            """);
    }

    private static void byALaterWish(Runs runs, String heap) {
        runs.run("one without a wish that a wish KEEPS", Runs.KINDS, heap, SIX, """
            wish 5 = 1; link 5 0 4 = -1; link 4 0 0 = -1
            """, NO_ROOTS, """
            clean = 9; count 2 = 3; about 0 1 = 3; about 4 1 = 3; weak 0 -1 = 0; weak 4 -1 = 4; weak 5 -1 = -1
            weak 1 -1 = -1; get 5 0 = 4; get 4 0 = 0
            """);
    }

    private static void weakBeforeAnythingGoes(Runs runs) {
        runs.run("a make that cleans does all of it", Runs.KINDS, """
            policy sweep 16 first = 16; row true 5 0 = 0; row true 3 1 = 1; row true 4 2 = 2; wish 1 = 1; weak 0 0 = -1
            weak 1 1 = -1; weak 2 2 = -1; link 1 0 2 = -1; root 0 -1 = 0; root 1 -1 = 1; root 2 -1 = 2
            row false 5 3 = 3; about 3 0 = 0; count 9 = 1; strong 0 4 = -1; strong 1 4 = -1; strong 2 4 = 2; count 5 = 1
            """);
    }
}
