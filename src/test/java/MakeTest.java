/** Promise 6: make; and what a make does that finds no room. */
public final class MakeTest {
    // One block or top of 16 words each.
    private static final String[] SIXTEEN = {
        "sweep 16 first", "sweep 16 next", "sweep 16 best", "sweep 16 worst", "slide 16", "halves 16", "counts 16 first",
        "counts 16 best", "steps 16 first 50 picture", "steps 16 next 50 news"
    };

    public static void main(String[] args) {
        Runs runs = new Runs();
        kinds(runs);
        roots(runs);
        numbers(runs);
        wordsAtFirst(runs);
        for (String policy : SIXTEEN) {
            String heap = "policy " + policy + " = " + (policy.startsWith("halves") ? 32 : 16) + "\n";
            boolean inSteps = policy.startsWith("steps");
            fits(runs, heap, inSteps);
            triedOnceMore(runs, heap);
            full(runs, heap, inSteps);
            firstRoomThenTheRoot(runs, heap);
        }
        mostCalls(runs);
        Refused.withoutHeap(runs, "make 0 0 = !IllegalStateException", "make 3 15 = !IllegalStateException",
            "make 4 0 = !IllegalArgumentException", "make -1 0 = !IllegalArgumentException",
            "make 0 16 = !IllegalArgumentException", "make 0 -1 = !IllegalArgumentException");
        Refused.everywhere(runs, "make 4 0 = !IllegalArgumentException", "make -1 0 = !IllegalArgumentException",
            "make 16 0 = !IllegalArgumentException", "make 17 0 = !IllegalArgumentException",
            "make 0 16 = !IllegalArgumentException", "make 0 -1 = !IllegalArgumentException",
            "make -2147483648 2147483647 = !IllegalArgumentException",
            "make 2147483647 -2147483648 = !IllegalArgumentException");
        runs.finish();
    }

    private static void kinds(Runs runs) {
        runs.run("a KIND that is told", """
            policy slide 40 = 40
            make 0 0 = !IllegalArgumentException; kind 2 0 = 0; make 0 0 = 0; make 1 0 = !IllegalArgumentException
            kind 3 0 = 1; make 1 1 = 1; about 1 2 = 1; about 1 1 = 4; make 2 0 = !IllegalArgumentException
            make -1 0 = !IllegalArgumentException; count 4 = 2
            """);
        runs.run("rows are made by row alone", Runs.KINDS, """
            policy slide 40 = 40; row true 2 0 = 0; row false 2 1 = 1
            make 16 0 = !IllegalArgumentException; make 17 0 = !IllegalArgumentException; count 4 = 2
            """);
        runs.run("SIZE is 1 more than its words", Runs.KINDS, """
            policy slide 40 = 40
            make 2 0 = 0; about 0 1 = 1; count 3 = 1; make 3 1 = 1; about 1 1 = 9; about 1 0 = 1; count 3 = 10
            make 2 2 = 2; about 2 0 = 10
            """);
    }

    private static void roots(Runs runs) {
        runs.run("that ROOT root has then", Runs.KINDS, """
            policy slide 40 = 40
            make 2 0 = 0; root 0 0 = 0; make 2 15 = 1; root 15 1 = 1
            make 2 16 = !IllegalArgumentException; make 2 -1 = !IllegalArgumentException; count 4 = 2
            make 2 15 = 2; root 15 2 = 2; about 1 0 = !NoSuchElementException; root 0 0 = 0
            """);
    }

    private static void numbers(Runs runs) {
        runs.run("NUMBERS as they are made in this heap, never twice", Runs.KINDS, """
            policy sweep 16 first = 16; count 4 = 0
            make 0 0 = 0; make 0 1 = 1; count 4 = 2; root 1 -1 = 1; clean = 3; count 4 = 2
            make 0 1 = 2; about 2 0 = 3      # where 1 was
            about 1 0 = !NoSuchElementException
            row false 15 2 = -1; count 4 = 3; make 2 2 = 3; count 4 = 4
            make -1 2 = !IllegalArgumentException; make 2 2 = 4
            policy sweep 16 first = 16; make 0 0 = 0; count 4 = 1
            """);
    }

    private static void wordsAtFirst(Runs runs) {
        runs.run("words are 0, REFERENCES NOTHING at first, also where another was", Runs.KINDS, """
            policy sweep 16 first = 16
            make 1 0 = 0; get 0 0 = -1; get 0 1 = 0; get 0 2 = 0; put 0 1 5 = 0; put 0 2 -1 = 0; link 0 0 0 = -1
            root 0 -1 = 0; clean = 4
            make 1 0 = 1; about 1 0 = 0; get 1 0 = -1; get 1 1 = 0; get 1 2 = 0
            root 0 -1 = 1; clean = 4; row false 3 0 = 2; get 2 0 = 0; get 2 1 = 0; put 2 0 0 = 0
            root 0 -1 = 2; clean = 4; row true 3 0 = 3; get 3 0 = -1; get 3 1 = -1; get 3 2 = -1; wish 3 = 1
            weak 0 3 = -1; root 0 -1 = 3; make 2 0 = 4; about 4 7 = 0; about 4 6 = 0
            """);
    }

    private static void fits(Runs runs, String heap, boolean inSteps) {
        runs.run("just the room", heap, "row false 15 0 = 0; about 0 1 = 16; count 5 = 0; count 3 = 16");
        runs.run("one word more than the room", heap, """
            row false 16 0 = -1; count 5 = 1; count 4 = 0; count 7 = 0; root 0 -1 = -1; row false 15 0 = 0
            """);
        // Steps begin before they look for room, and end at once.
        runs.run("no word is left", Runs.KINDS, heap, "row false 14 0 = 0; make 2 1 = 1; count 3 = 16; count 5 = "
            + (inSteps ? 1 : 0) + "; make 2 2 = -1; count 5 = " + (inSteps ? 3 : 1) + "; count 4 = 2; root 2 -1 = -1");
    }

    private static void triedOnceMore(Runs runs, String heap) {
        runs.run("cleaned, then tried once more", heap, """
            row false 6 0 = 0; row true 3 1 = 1; row false 4 2 = 2; count 3 = 16
            link 1 0 1 = -1; root 1 -1 = 1; count 2 = 3; count 5 = 0
            row false 3 3 = 3; count 5 = 1; count 7 = 4; count 2 = 3; count 4 = 4; root 3 3 = 3
            """);
    }

    private static void full(Runs runs, String heap, boolean inSteps) {
        runs.run("still none: FULL, what was cleaned is", heap, """
            row false 6 0 = 0; row true 3 1 = 1; row false 4 2 = 2; link 1 0 1 = -1; weak 0 1 = -1; root 1 -1 = 1
            row false 4 3 = -1               # 5 words; 4 are free by the cleaning
            """, "count 5 = " + (inSteps ? 2 : 1), """

            count 7 = 4; count 2 = 2; count 3 = 12; count 4 = 3; root 3 -1 = -1; strong 0 3 = -1
            row false 3 3 = 3; count 3 = 16
            """, "count 5 = " + (inSteps ? 2 : 1));
    }

    private static void firstRoomThenTheRoot(Runs runs, String heap) {
        runs.run("first room, then the ROOT changes", heap, """
            row false 14 0 = 0; row false 14 0 = -1; root 0 0 = 0; about 0 1 = 15; row false 1 0 = -1; root 0 -1 = 0
            row false 14 0 = 1; about 1 1 = 15; count 7 = 15
            """);
    }

    /** An object is used for at most 512 calls: four for the heap, then only rows. */
    private static void mostCalls(Runs runs) {
        for (String policy : new String[] {"sweep 1500 first", "slide 1500", "halves 1500", "ages 1500 1500 7 4",
            "counts 1500 best", "steps 1500 worst 1 news", "regions 1500 16 50"}) {
            CollectorHouse house = new CollectorHouse();
            Runs.feed(house, policy);
            house.heap();
            for (int n = 0; n < 508; n++) {
                runs.expect(policy + ": one more", Runs.answer(house, "row false 0 " + n % 16), String.valueOf(n));
            }
        }
    }
}
