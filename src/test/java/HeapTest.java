import java.util.List;

/** Promise 5: heap; POLICY with the range of each number in it, and BROKEN with its PLACE. */
public final class HeapTest {
    private static final String[] FORMS = {"first", "next", "best", "worst"};
    private static final String[] BARRIERS = {"picture", "news"};
    private static final String[] POLICIES = {
        "sweep 40 first", "slide 40", "halves 40", "ages 40 50 3 8", "counts 40 worst", "steps 40 next 5 picture",
        "regions 200 20 50"
    };
    private static final int[] WORDS = {40, 40, 80, 130, 40, 40, 200};

    public static void main(String[] args) {
        Runs runs = new Runs();
        wholePolicies(runs);
        room(runs);
        ages(runs);
        steps(runs);
        regions(runs);
        digits(runs);
        words(runs);
        blanks(runs);
        lacking(runs);
        tooMuch(runs);
        firstOfSeveral(runs);
        whatWasStays(runs);
        inPlaceOfWhatWas(runs);
        nothingIsLeftOver(runs);
        runs.finish();
    }

    private static void due(Runs runs, String text, int want) {
        CollectorHouse house = new CollectorHouse();
        Runs.feed(house, text);
        runs.expect("heap of '" + text + "'", Runs.answer(house, "heap"), String.valueOf(want));
        runs.expect("the tape behind '" + text + "'", Runs.answer(house, "count 0"), "0");
        runs.expect("a heap behind '" + text + "'", Runs.answer(house, "count 2"),
            want < 0 ? "!IllegalStateException" : "0");
    }

    /** BROKEN where that part of the text begins. */
    private static void brokenAt(Runs runs, String text, String part) {
        due(runs, text, -1 - text.indexOf(part));
    }

    private static void wholePolicies(Runs runs) {
        for (int i = 0; i < POLICIES.length; i++) {
            due(runs, POLICIES[i], WORDS[i]);
        }
    }

    /** ROOM 16 .. 1500, in each policy that has one; the words in all. */
    private static void room(Runs runs) {
        for (String text : List.of("sweep @ first", "slide @", "halves @", "counts @ best", "steps @ worst 1 news")) {
            int times = text.startsWith("halves") ? 2 : 1;
            due(runs, text.replace("@", "16"), 16 * times);
            due(runs, text.replace("@", "1500"), 1500 * times);
            for (String wrong : List.of("15", "1501", "0", "1", "99999", "00000", "-16", "+16")) {
                brokenAt(runs, text.replace("@", wrong), wrong + (text.endsWith("@") ? "" : " "));
            }
        }
    }

    private static void ages(Runs runs) {
        due(runs, "ages 16 16 1 4", 48);
        due(runs, "ages 1500 16 7 64", 3016);
        due(runs, "ages 16 1500 7 4", 1532);
        due(runs, "ages 1500 1500 1 64", 4500);
        due(runs, "ages 15 16 1 4", -6);
        due(runs, "ages 1501 16 1 4", -6);
        due(runs, "ages 16 15 1 4", -9);
        due(runs, "ages 16 1501 1 4", -9);
        due(runs, "ages 16 16 0 4", -12);
        due(runs, "ages 16 16 8 4", -12);
        due(runs, "ages 16 16 1 3", -14);
        due(runs, "ages 16 16 1 65", -14);
        for (int age = 1; age <= 7; age++) {
            due(runs, "ages 20 30 " + age + " 10", 70);
        }
    }

    private static void steps(Runs runs) {
        for (String form : FORMS) {
            for (String barrier : BARRIERS) {
                due(runs, "steps 20 " + form + " 1 " + barrier, 20);
                due(runs, "steps 20 " + form + " 50 " + barrier, 20);
                brokenAt(runs, "steps 20 " + form + " 0 " + barrier, "0 " + barrier);
                brokenAt(runs, "steps 20 " + form + " 51 " + barrier, "51");
            }
        }
    }

    private static void regions(Runs runs) {
        due(runs, "regions 64 16 0", 64);
        due(runs, "regions 64 16 100", 64);
        due(runs, "regions 64 16 101", -15);
        due(runs, "regions 64 16 -1", -15);
        due(runs, "regions 64 15 0", -12);
        due(runs, "regions 1500 256 0", 1280);
        due(runs, "regions 1500 257 0", -14);
        due(runs, "regions 1501 256 0", -9);
        due(runs, "regions 15 16 0", -9);
        // ROOM at least 4 SIZES: the SIZE is what can't stand behind that ROOM.
        due(runs, "regions 63 16 0", -12);
        due(runs, "regions 16 16 0", -12);
        due(runs, "regions 1024 256 50", 1024);
        due(runs, "regions 1023 256 50", -14);
        due(runs, "regions 68 17 50", 68);
        due(runs, "regions 67 17 50", -12);
        // Whole ones alone are used.
        due(runs, "regions 65 16 50", 64);
        due(runs, "regions 79 16 50", 64);
        due(runs, "regions 80 16 50", 80);
        due(runs, "regions 1500 16 50", 1488);
    }

    private static void digits(Runs runs) {
        due(runs, "slide 00016", 16);
        due(runs, "slide 01500", 1500);
        due(runs, "slide 000016", -7);
        due(runs, "slide 0000000000000016", -7);
        due(runs, "slide 4294967312", -7);
        due(runs, "ages 00016 00016 00001 00004", 48);
        due(runs, "ages 00016 00016 000001 00004", -18);
        due(runs, "regions 64 16 00000", 64);
        due(runs, "regions 64 16 000000", -15);
        for (char wrong : new char[] {'/', ':', 'a', 'O', '.', ',', '-', 0, 9, 10, 31, 33, 127, 128, 160, 178, 255}) {
            due(runs, "slide 4" + wrong, -7);
            due(runs, "slide " + wrong + "40", -7);
            due(runs, "slide 4" + wrong + "0", -7);
        }
    }

    private static void words(Runs runs) {
        for (String form : FORMS) {
            due(runs, "sweep 40 " + form, 40);
            due(runs, "counts 40 " + form, 40);
        }
        for (String wrong : List.of("firs", "firstt", "First", "FIRST", "nex", "bes", "wors", "worse", "1", "picture")) {
            due(runs, "sweep 40 " + wrong, -10);
            due(runs, "counts 40 " + wrong, -11);
            due(runs, "steps 40 " + wrong + " 1 news", -10);
        }
        for (String wrong : List.of("new", "newss", "News", "pictur", "pictures", "first", "1")) {
            due(runs, "steps 40 first 1 " + wrong, -18);
        }
        for (String wrong : List.of("sweeps", "Sweep", "swee", "slid", "slides", "half", "halve", "age", "count", "step",
                "region", "40", "first", "news")) {
            due(runs, wrong + " 40 first", -1);
            due(runs, "  " + wrong + " 40 first", -3);
        }
    }

    private static void blanks(Runs runs) {
        for (int i = 0; i < POLICIES.length; i++) {
            due(runs, POLICIES[i].replace(" ", "   "), WORDS[i]);
            due(runs, " " + POLICIES[i], WORDS[i]);
            due(runs, POLICIES[i] + " ", WORDS[i]);
            due(runs, "    " + POLICIES[i].replace(" ", "  ") + "     ", WORDS[i]);
            // A byte that looks like a blank is part of the word.
            due(runs, POLICIES[i].replaceFirst(" ", "\t"), -1);
            due(runs, POLICIES[i].replaceFirst(" ", "\u00a0"), -1);
            due(runs, POLICIES[i].replaceFirst(" ", "\0"), -1);
            due(runs, POLICIES[i].replaceFirst(" ", ""), -1);
            int last = POLICIES[i].lastIndexOf(' ') + 1;
            due(runs, POLICIES[i] + "\0", -1 - last);
            due(runs, POLICIES[i] + "\n", -1 - last);
        }
        due(runs, "sweep 40first", -7);
        due(runs, "steps 40 next5 picture", -10);
    }

    private static void lacking(Runs runs) {
        due(runs, "", -1);
        due(runs, " ", -2);
        due(runs, "     ", -6);
        for (String policy : POLICIES) {
            for (int end = policy.lastIndexOf(' '); end > 0; end = policy.lastIndexOf(' ', end - 1)) {
                String text = policy.substring(0, end);
                due(runs, text, -1 - text.length());
                due(runs, text + "   ", -4 - text.length());
                due(runs, "  " + text + " ", -4 - text.length());
            }
        }
    }

    private static void tooMuch(Runs runs) {
        for (String policy : POLICIES) {
            due(runs, policy + " 1", -2 - policy.length());
            due(runs, policy + "   first  ", -4 - policy.length());
            due(runs, policy + " " + policy, -2 - policy.length());
        }
    }

    private static void firstOfSeveral(Runs runs) {
        due(runs, "slid 15", -1);
        due(runs, "sweep 15", -7);
        due(runs, "sweep 15 x y", -7);
        due(runs, "ages 15 15 0 3", -6);
        due(runs, "ages 16 15 0 3", -9);
        due(runs, "ages 16 16 0 3 9", -12);
        due(runs, "regions 63 16", -12);
        due(runs, "regions 63 16 101", -12);
        due(runs, "steps 40 x 0 y", -10);
    }

    private static void whatWasStays(Runs runs) {
        for (String policy : POLICIES) {
            runs.run("BROKEN: what was stays", Runs.KINDS, """
                policy %s = %d
                make 0 0 = 0; make 1 1 = 1; put 1 1 7 = 0; link 0 0 1 = -1; weak 2 0 = -1; wish 1 = 1; count 4 = 2
                policy slide 15 = -7; policy x = -1; policy = -1; policy slide = -6
                count 0 = 0; count 2 = 2; count 3 = 7; count 4 = 2; get 1 1 = 7; get 0 0 = 1; weak 2 0 = 0; about 1 7 = 1
                root 0 0 = 0; root 1 1 = 1; make 2 2 = 2
                """.formatted(policy, WORDS[List.of(POLICIES).indexOf(policy)]));
        }
    }

    private static void inPlaceOfWhatWas(Runs runs) {
        for (String policy : POLICIES) {
            int words = WORDS[List.of(POLICIES).indexOf(policy)];
            runs.run("a new heap, in place of what was: " + policy, Runs.KINDS, """
                policy %1$s = %2$d
                make 0 0 = 0; row true 8 15 = 1; make 0 1 = 2; make 0 2 = 3; wish 2 = 1; weak 0 0 = -1; weak 15 1 = -1
                root 1 -1 = 2; root 2 -1 = 3; clean = %3$d; count 9 = 1; wish 1 = 1; count 5 = %4$d
                policy %1$s = %2$d
                count 1 = 4; count 2 = 0; count 3 = 0; count 4 = 0; count 5 = 0; count 6 = 0; count 7 = 0; count 8 = 0
                count 9 = 0; count 12 = 0; granted 3 = -1
                about 0 0 = !NoSuchElementException; about 1 0 = !NoSuchElementException
                about 2 0 = !NoSuchElementException
                root 0 -1 = -1; root 15 -1 = -1; weak 0 -1 = -1; weak 15 -1 = -1
                make 0 0 = 0; get 0 0 = -1; get 0 1 = -1; about 0 6 = 0; about 0 7 = 0; about 0 3 = 0; about 0 5 = 0
                """.formatted(policy, words, policy.startsWith("counts") ? 0 : 3, policy.startsWith("ages") ? 2 : 1));
        }
    }

    private static void nothingIsLeftOver(Runs runs) {
        runs.run("words", """
            policy slide 20 = 20; row false 19 0 = 0; put 0 3 5 = 0; put 0 18 -1 = 0; count 11 = 20
            policy slide 20 = 20; count 11 = 0; row false 19 0 = 0; get 0 3 = 0; get 0 18 = 0
            """);
        runs.run("FREE BLOCKS, and where next begins", """
            policy sweep 16 next = 16; row false 3 0 = 0; row false 3 1 = 1; block 0 0 = 8
            policy sweep 16 next = 16; block 0 0 = 0; block 0 1 = 16; block 1 0 = !IndexOutOfBoundsException
            row false 15 0 = 0; about 0 0 = 0; count 8 = 1
            """);
        runs.run("the present half", """
            policy halves 16 = 32; row false 3 0 = 0; clean = 0; count 11 = 20; policy halves 16 = 32; count 11 = 0
            row false 15 0 = 0; about 0 0 = 0; count 5 = 0; row false 0 1 = -1; about 0 0 = 16; count 11 = 32
            """);
        runs.run("dirty CARDS, TOPS and AGES", Runs.KINDS, """
            policy ages 16 16 2 4 = 48; row true 8 0 = 0; make 2 1 = 1; link 0 0 1 = -1; count 10 = 1; clean = 0
            count 11 = 33; count 13 = 9; about 1 3 = 1; count 10 = 1
            policy ages 16 16 2 4 = 48; count 10 = 0; count 11 = 16; count 13 = 0; make 2 0 = 0; about 0 0 = 16
            about 0 3 = 0
            """);
        runs.run("COUNTS", Runs.KINDS, """
            policy counts 16 first = 16; make 2 0 = 0; root 1 0 = -1; hold 0 true = 1; about 0 4 = 3
            policy counts 16 first = 16; make 2 0 = 0; about 0 4 = 1; about 0 6 = 0
            """);
        runs.run("MARKING", Runs.KINDS, """
            policy steps 16 first 1 news = 16; row false 6 0 = 0; row false 5 1 = 1; make 2 2 = 2; count 12 = 1
            count 10 = 1
            policy steps 16 first 1 news = 16; count 12 = 0; count 10 = 0; step 1 = 0; make 2 0 = 0; about 0 5 = 0
            """);
        runs.run("REGIONS", """
            policy regions 64 16 50 = 64; row false 15 0 = 0; row false 15 1 = 1; count 10 = 2; count 13 = 1; count 11 = 32
            policy regions 64 16 50 = 64; count 10 = 4; count 13 = 0; count 11 = 0; row false 15 0 = 0; about 0 0 = 0
            """);
        runs.run("another policy", Runs.KINDS, """
            policy halves 16 = 32; make 0 0 = 0; clean = 0; policy slide 16 = 16; make 0 0 = 0; about 0 0 = 0; hold 0 true = 1
            policy counts 16 first = 16; make 0 0 = 0; about 0 4 = 1; about 0 6 = 0
            policy sweep 16 first = 16; make 0 0 = 0; about 0 4 = 0; step 0 = !UnsupportedOperationException
            policy steps 16 first 1 news = 16; step 0 = 0; block 0 1 = 16
            policy regions 64 16 50 = 64; block 0 0 = !UnsupportedOperationException; count 10 = 4
            policy ages 16 16 1 4 = 48; count 11 = 16; count 10 = 0; policy slide 17 = 17; count 10 = 0; count 13 = 0
            """);
    }
}
