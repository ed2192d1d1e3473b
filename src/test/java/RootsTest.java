/** Promises 11 (root), 12 (weak), 13 (strong), 14 (hold), 15 (wish), 16 (granted), 17 (clean). */
public final class RootsTest {
    public static void main(String[] args) {
        Runs runs = new Runs();
        roots(runs);
        weaks(runs);
        holds(runs);
        wishes(runs);
        wishesByNumber(runs);
        runs.finish();
    }

    private static void roots(Runs runs) {
        runs.run("root", Runs.KINDS, """
            root 0 -1 = !IllegalStateException; root 16 -1 = !IllegalArgumentException
            policy slide 40 = 40
            root 0 -1 = -1; root 15 -1 = -1; root -1 -1 = !IllegalArgumentException
            root 16 7 = !IllegalArgumentException; root 0 0 = !NoSuchElementException
            make 0 0 = 0; root 5 0 = -1; root 5 0 = 0; root 0 -1 = 0; about 0 1 = 3
            root 6 1 = !NoSuchElementException; root 6 -2 = !NoSuchElementException; root 5 -1 = 0
            root 5 0 = !NoSuchElementException
            """);
    }

    private static void weaks(Runs runs) {
        runs.run("weak and strong", Runs.KINDS, """
            weak 0 -1 = !IllegalStateException; weak 16 -1 = !IllegalArgumentException
            strong 0 0 = !IllegalStateException; strong 16 0 = !IllegalArgumentException
            strong 0 16 = !IllegalArgumentException; strong -1 0 = !IllegalArgumentException
            policy slide 40 = 40
            weak -1 -1 = !IllegalArgumentException; weak 0 0 = !NoSuchElementException
            make 0 0 = 0; make 1 1 = 1; make 2 2 = 2
            weak 0 0 = -1; weak 15 0 = -1; weak 3 1 = -1; weak 3 2 = 1; weak 3 1 = 2; weak 3 -2 = !NoSuchElementException
            strong 9 1 = -1; root 1 1 = 1    # nothing: the root stays
            root 0 -1 = 0; strong 15 7 = 0   # not reached, but there
            root 7 0 = 0; root 7 -1 = 0; clean = 3
            strong 0 7 = -1; weak 15 -1 = -1; strong 3 2 = 1; root 2 -1 = 1
            about 1 0 = 0; count 7 = 3; clean = 1
            """);
    }

    private static void holds(Runs runs) {
        runs.run("hold", Runs.KINDS, """
            hold 0 true = !IllegalStateException
            policy sweep 40 first = 40
            hold 0 true = !NoSuchElementException
            make 0 0 = 0; make 0 1 = 1; link 0 0 1 = -1; root 1 -1 = 1
            hold 0 false = !UnsupportedOperationException
            hold 0 true = 1; hold 0 true = 2; about 0 6 = 2; root 0 -1 = 0; clean = 0
            hold 0 false = 1; clean = 0; get 0 0 = 1
            hold 0 false = 0; hold 0 false = !NoSuchElementException; clean = 6
            policy halves 16 = 32; hold 0 true = !NoSuchElementException; make 0 0 = 0
            hold 0 true = !UnsupportedOperationException; hold 0 false = !UnsupportedOperationException
            policy ages 16 30 1 4 = 62; make 0 0 = 0; row false 8 1 = 1
            hold 0 true = !UnsupportedOperationException; hold 0 false = !UnsupportedOperationException
            hold 1 false = !UnsupportedOperationException; hold 1 true = 1
            clean = 0; about 0 0 = 9; hold 0 true = 1
            """);
    }

    private static void wishes(Runs runs) {
        runs.run("wish and granted", Runs.KINDS, """
            wish 0 = !IllegalStateException; granted 0 = !IllegalStateException; granted 16 = !IllegalArgumentException
            policy sweep 40 first = 40
            granted -1 = !IllegalArgumentException; granted 3 = -1; wish 0 = !NoSuchElementException
            make 0 0 = 0; make 0 1 = 1; make 2 2 = 2; link 0 0 1 = -1; root 1 -1 = 1
            wish 0 = 1; wish 0 = 0; about 0 7 = 1; about 1 7 = 0
            clean = 0; count 9 = 0           # reached: its wish waits
            weak 0 0 = -1; weak 1 1 = -1; root 0 -1 = 0; clean = 0
            count 9 = 1; about 0 7 = 0; about 1 0 = 3    # wishes reach
            strong 0 5 = -1; strong 1 5 = 1; root 5 -1 = 1
            clean = 0; count 9 = 1
            wish 0 = 1                       # it may have one again
            granted 2 = 0; count 9 = 0; root 2 0 = 0; granted 2 = -1; root 2 0 = 0
            clean = 1; root 2 -1 = 0
            clean = 0; count 9 = 1; granted 0 = 0; root 0 -1 = 0; clean = 6; count 2 = 0
            """);
    }

    private static void wishesByNumber(Runs runs) {
        runs.run("wishes by number", Runs.KINDS, """
            policy sweep 60 first = 60
            make 0 0 = 0; make 0 1 = 1; make 0 2 = 2; make 0 3 = 3; make 0 4 = 4; make 2 5 = 5
            link 1 0 2 = -1; link 4 0 0 = -1; link 4 1 1 = -1; link 2 1 3 = -1
            wish 4 = 1; wish 2 = 1; wish 1 = 1
            weak 1 1 = -1; weak 2 2 = -1; weak 3 3 = -1; weak 4 4 = -1; weak 5 5 = -1; weak 6 1 = -1
            root 0 -1 = 0; root 1 -1 = 1; root 2 -1 = 2; root 3 -1 = 3; root 4 -1 = 4; root 5 -1 = 5
            clean = 1; count 9 = 2           # 1, which keeps 2 and its wish, then 4, which keeps 0
            about 2 7 = 1; about 0 7 = 0; about 1 7 = 0
            strong 1 9 = -1; strong 6 9 = -1; strong 4 9 = -1; strong 5 9 = -1
            strong 2 9 = 2; strong 3 9 = 3; root 9 -1 = 3
            granted 0 = 1; granted 1 = 4; granted 2 = -1
            root 0 -1 = 1; clean = 0; root 1 -1 = 4; clean = 9
            granted 0 = 2; get 2 1 = 3; count 2 = 2
            """);
    }
}
