/**
 * Policies that follow each other: a heap that came in place of others tells what the same heap tells in a new house,
 * whatever was made, held, marked, dirty or moved before.
 */
public final class FollowTest {
    private static final String[] POLICIES = {
        "sweep 60 next", "sweep 90 worst", "slide 60", "slide 75", "halves 60", "halves 80", "ages 40 60 2 4",
        "ages 60 60 1 64", "ages 30 90 3 7", "counts 60 worst", "counts 70 next", "steps 60 first 1 picture",
        "steps 60 best 1 news", "steps 90 next 2 news", "regions 120 24 40", "regions 150 30 100", "regions 110 26 0"
    };

    // These fill each heap up, flip its halves, leave its cards dirty and its marking undone.
    private static final String[] STIR = {
        "row true 19 10", "link 10 0 0", "hold 10 true", "row true 3 11", "row false 14 12", "row false 14 12",
        "row false 3 13", "weak 15 0", "row true 3 14", "row false 20 15", "row false 60 7", "wish 0", "root 0 -1",
        "make 2 0", "make 1 5", "make 1 5", "make 1 5", "make 1 5", "link 3 0 6", "link 3 12 6", "step 1", "make 2 4",
        "make 2 4", "make 2 4"
    };

    public static void main(String[] args) {
        Runs runs = new Runs();
        runs.run("policies that follow each other");
        for (String last : POLICIES) {
            String due = toldFrom(Refused.withKinds(), last);
            for (String first : POLICIES) {
                after(runs, due, last, first);
                after(runs, due, last, last, first);
                afterBroken(runs, due, last, first);
            }
        }
        brokenBetween(runs);
        runs.finish();
    }

    private static void after(Runs runs, String due, String last, String... before) {
        runs.expect(last + " after " + String.join(", ", before), toldFrom(stirred(before), last), due);
    }

    private static void afterBroken(Runs runs, String due, String last, String first) {
        CollectorHouse house = stirred(first);
        Runs.answer(house, "policy regions 128 32 101");
        Runs.answer(house, "policy ages 50 70 3 65");
        Runs.answer(house, "policy steps 50 best 51 news");
        runs.expect(last + " after " + first + " and BROKEN ones", toldFrom(house, last), due);
    }

    /** What was stays, to the last word, when a text is BROKEN as late as may be. */
    private static void brokenBetween(Runs runs) {
        String[] broken = {
            "sweep 16 worst x", "slide 16 16", "halves 16 first", "ages 16 16 1 65", "counts 16 best next",
            "steps 16 first 50 pictures", "regions 64 16 101", ""
        };
        for (String policy : POLICIES) {
            String due = Refused.told(tapeEmptied(Refused.setUp(policy)));
            for (String text : broken) {
                CollectorHouse house = Refused.setUp(policy);
                Runs.answer(house, "policy " + text);
                runs.expect(policy + " behind a BROKEN " + text, Refused.told(house), due);
            }
        }
    }

    private static CollectorHouse tapeEmptied(CollectorHouse house) {
        house.end(0);
        return house;
    }

    private static String toldFrom(CollectorHouse house, String policy) {
        return Refused.beginHeap(house, policy) + "; " + Refused.told(house);
    }

    private static CollectorHouse stirred(String... policies) {
        CollectorHouse house = Refused.withKinds();
        for (String policy : policies) {
            Refused.beginHeap(house, policy);
            for (String call : STIR) {
                Runs.answer(house, call);
            }
        }
        return house;
    }
}
